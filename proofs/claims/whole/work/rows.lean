section
-- ===== PART A: goes FIRST, ahead of the names: the tables' words, and 'selects' of the private methods out of them =====
/-- a private method of a class that the tables say can be made, by its rows of tables_1 -/
def lw_okq (q : MethodName × Nat) : Prop := (q.1.cls ≠ "java/lang/invoke/MethodHandle" ∧ q.1.cls ≠ "java/lang/invoke/VarHandle") ∧ Cond.instantiable q.1.cls q.2 ∈ tables_1 ∧ Cond.privateMethod q.1 ∈ tables_1 ∧ Cond.instanceMethod q.1 ∈ tables_1
theorem lw_p0 : lw_okq (⟨"WhoIsThere", "stayingHelper", "(I)LWhoIsThere$Host;"⟩, 13) := ⟨⟨by decide +kernel, by decide +kernel⟩, List.mem_of_getElem? (i := 12) (by decide +kernel), List.mem_of_getElem? (i := 260) (by decide +kernel), List.mem_of_getElem? (i := 261) (by decide +kernel)⟩
theorem lw_p1 : lw_okq (⟨"WhoIsThere", "stayingHost", "(I)LWhoIsThere$Host;"⟩, 13) := ⟨⟨by decide +kernel, by decide +kernel⟩, List.mem_of_getElem? (i := 12) (by decide +kernel), List.mem_of_getElem? (i := 264) (by decide +kernel), List.mem_of_getElem? (i := 265) (by decide +kernel)⟩
theorem lw_p2 : lw_okq (⟨"WhoIsThere", "hostAt", "(I)LWhoIsThere$Host;"⟩, 13) := ⟨⟨by decide +kernel, by decide +kernel⟩, List.mem_of_getElem? (i := 12) (by decide +kernel), List.mem_of_getElem? (i := 268) (by decide +kernel), List.mem_of_getElem? (i := 269) (by decide +kernel)⟩
theorem lw_p3 : lw_okq (⟨"WhoIsThere", "addService", "(LWhoIsThere$Host;IIIIZ)I"⟩, 13) := ⟨⟨by decide +kernel, by decide +kernel⟩, List.mem_of_getElem? (i := 12) (by decide +kernel), List.mem_of_getElem? (i := 276) (by decide +kernel), List.mem_of_getElem? (i := 277) (by decide +kernel)⟩
theorem lw_p4 : lw_okq (⟨"WhoIsThere", "liveServicesOf", "(LWhoIsThere$Host;)I"⟩, 13) := ⟨⟨by decide +kernel, by decide +kernel⟩, List.mem_of_getElem? (i := 12) (by decide +kernel), List.mem_of_getElem? (i := 286) (by decide +kernel), List.mem_of_getElem? (i := 287) (by decide +kernel)⟩
theorem lw_p5 : lw_okq (⟨"WhoIsThere", "isNameTaken", "(LWhoIsThere$Host;I)Z"⟩, 13) := ⟨⟨by decide +kernel, by decide +kernel⟩, List.mem_of_getElem? (i := 12) (by decide +kernel), List.mem_of_getElem? (i := 290) (by decide +kernel), List.mem_of_getElem? (i := 291) (by decide +kernel)⟩
theorem lw_p6 : lw_okq (⟨"WhoIsThere", "serviceInCare", "(I)LWhoIsThere$Service;"⟩, 13) := ⟨⟨by decide +kernel, by decide +kernel⟩, List.mem_of_getElem? (i := 12) (by decide +kernel), List.mem_of_getElem? (i := 360) (by decide +kernel), List.mem_of_getElem? (i := 361) (by decide +kernel)⟩
theorem lw_p7 : lw_okq (⟨"WhoIsThere", "serviceAt", "(I)LWhoIsThere$Service;"⟩, 13) := ⟨⟨by decide +kernel, by decide +kernel⟩, List.mem_of_getElem? (i := 12) (by decide +kernel), List.mem_of_getElem? (i := 364) (by decide +kernel), List.mem_of_getElem? (i := 365) (by decide +kernel)⟩
theorem lw_p8 : lw_okq (⟨"WhoIsThere", "lotOf", "(LWhoIsThere$Host;)I"⟩, 13) := ⟨⟨by decide +kernel, by decide +kernel⟩, List.mem_of_getElem? (i := 12) (by decide +kernel), List.mem_of_getElem? (i := 387) (by decide +kernel), List.mem_of_getElem? (i := 388) (by decide +kernel)⟩
theorem lw_p9 : lw_okq (⟨"WhoIsThere", "rouse", "(LWhoIsThere$Host;)V"⟩, 13) := ⟨⟨by decide +kernel, by decide +kernel⟩, List.mem_of_getElem? (i := 12) (by decide +kernel), List.mem_of_getElem? (i := 427) (by decide +kernel), List.mem_of_getElem? (i := 428) (by decide +kernel)⟩
theorem lw_p10 : lw_okq (⟨"WhoIsThere", "hasHadServices", "(LWhoIsThere$Host;)Z"⟩, 13) := ⟨⟨by decide +kernel, by decide +kernel⟩, List.mem_of_getElem? (i := 12) (by decide +kernel), List.mem_of_getElem? (i := 444) (by decide +kernel), List.mem_of_getElem? (i := 445) (by decide +kernel)⟩
theorem lw_p11 : lw_okq (⟨"WhoIsThere", "isProxyOfASleeper", "(LWhoIsThere$Host;)Z"⟩, 13) := ⟨⟨by decide +kernel, by decide +kernel⟩, List.mem_of_getElem? (i := 12) (by decide +kernel), List.mem_of_getElem? (i := 448) (by decide +kernel), List.mem_of_getElem? (i := 449) (by decide +kernel)⟩
theorem lw_p12 : lw_okq (⟨"WhoIsThere", "holdClaimedNames", "()V"⟩, 13) := ⟨⟨by decide +kernel, by decide +kernel⟩, List.mem_of_getElem? (i := 12) (by decide +kernel), List.mem_of_getElem? (i := 504) (by decide +kernel), List.mem_of_getElem? (i := 505) (by decide +kernel)⟩
theorem lw_p13 : lw_okq (⟨"WhoIsThere", "writeLetters", "()V"⟩, 13) := ⟨⟨by decide +kernel, by decide +kernel⟩, List.mem_of_getElem? (i := 12) (by decide +kernel), List.mem_of_getElem? (i := 508) (by decide +kernel), List.mem_of_getElem? (i := 509) (by decide +kernel)⟩
theorem lw_p14 : lw_okq (⟨"WhoIsThere", "writeByes", "(LWhoIsThere$Host;)V"⟩, 13) := ⟨⟨by decide +kernel, by decide +kernel⟩, List.mem_of_getElem? (i := 12) (by decide +kernel), List.mem_of_getElem? (i := 520) (by decide +kernel), List.mem_of_getElem? (i := 521) (by decide +kernel)⟩
theorem lw_p15 : lw_okq (⟨"WhoIsThere", "post", "(LWhoIsThere$Host;LWhoIsThere$Letter;I)V"⟩, 13) := ⟨⟨by decide +kernel, by decide +kernel⟩, List.mem_of_getElem? (i := 12) (by decide +kernel), List.mem_of_getElem? (i := 528) (by decide +kernel), List.mem_of_getElem? (i := 529) (by decide +kernel)⟩
def lw_privs_1 : List (MethodName × Nat) := [(⟨"WhoIsThere", "stayingHelper", "(I)LWhoIsThere$Host;"⟩, 13), (⟨"WhoIsThere", "stayingHost", "(I)LWhoIsThere$Host;"⟩, 13), (⟨"WhoIsThere", "hostAt", "(I)LWhoIsThere$Host;"⟩, 13), (⟨"WhoIsThere", "addService", "(LWhoIsThere$Host;IIIIZ)I"⟩, 13), (⟨"WhoIsThere", "liveServicesOf", "(LWhoIsThere$Host;)I"⟩, 13), (⟨"WhoIsThere", "isNameTaken", "(LWhoIsThere$Host;I)Z"⟩, 13), (⟨"WhoIsThere", "serviceInCare", "(I)LWhoIsThere$Service;"⟩, 13), (⟨"WhoIsThere", "serviceAt", "(I)LWhoIsThere$Service;"⟩, 13), (⟨"WhoIsThere", "lotOf", "(LWhoIsThere$Host;)I"⟩, 13), (⟨"WhoIsThere", "rouse", "(LWhoIsThere$Host;)V"⟩, 13), (⟨"WhoIsThere", "hasHadServices", "(LWhoIsThere$Host;)Z"⟩, 13), (⟨"WhoIsThere", "isProxyOfASleeper", "(LWhoIsThere$Host;)Z"⟩, 13), (⟨"WhoIsThere", "holdClaimedNames", "()V"⟩, 13), (⟨"WhoIsThere", "writeLetters", "()V"⟩, 13), (⟨"WhoIsThere", "writeByes", "(LWhoIsThere$Host;)V"⟩, 13), (⟨"WhoIsThere", "post", "(LWhoIsThere$Host;LWhoIsThere$Letter;I)V"⟩, 13)]
theorem lw_r1 : ∀ q ∈ lw_privs_1, lw_okq q := List.forall_mem_cons.mpr ⟨lw_p0, List.forall_mem_cons.mpr ⟨lw_p1, List.forall_mem_cons.mpr ⟨lw_p2, List.forall_mem_cons.mpr ⟨lw_p3, List.forall_mem_cons.mpr ⟨lw_p4, List.forall_mem_cons.mpr ⟨lw_p5, List.forall_mem_cons.mpr ⟨lw_p6, List.forall_mem_cons.mpr ⟨lw_p7, List.forall_mem_cons.mpr ⟨lw_p8, List.forall_mem_cons.mpr ⟨lw_p9, List.forall_mem_cons.mpr ⟨lw_p10, List.forall_mem_cons.mpr ⟨lw_p11, List.forall_mem_cons.mpr ⟨lw_p12, List.forall_mem_cons.mpr ⟨lw_p13, List.forall_mem_cons.mpr ⟨lw_p14, List.forall_mem_cons.mpr ⟨lw_p15, fun _ h => absurd h List.not_mem_nil⟩⟩⟩⟩⟩⟩⟩⟩⟩⟩⟩⟩⟩⟩⟩⟩
theorem lw_p16 : lw_okq (⟨"WhoIsThere", "writeCarried", "(LWhoIsThere$Host;LWhoIsThere$Bridge;)V"⟩, 13) := ⟨⟨by decide +kernel, by decide +kernel⟩, List.mem_of_getElem? (i := 12) (by decide +kernel), List.mem_of_getElem? (i := 536) (by decide +kernel), List.mem_of_getElem? (i := 537) (by decide +kernel)⟩
theorem lw_p17 : lw_okq (⟨"WhoIsThere", "writeAsks", "(LWhoIsThere$Host;)V"⟩, 13) := ⟨⟨by decide +kernel, by decide +kernel⟩, List.mem_of_getElem? (i := 12) (by decide +kernel), List.mem_of_getElem? (i := 540) (by decide +kernel), List.mem_of_getElem? (i := 541) (by decide +kernel)⟩
theorem lw_p18 : lw_okq (⟨"WhoIsThere", "knownTo", "(LWhoIsThere$Host;I)I"⟩, 13) := ⟨⟨by decide +kernel, by decide +kernel⟩, List.mem_of_getElem? (i := 12) (by decide +kernel), List.mem_of_getElem? (i := 549) (by decide +kernel), List.mem_of_getElem? (i := 550) (by decide +kernel)⟩
theorem lw_p19 : lw_okq (⟨"WhoIsThere", "writeClaims", "(LWhoIsThere$Host;)V"⟩, 13) := ⟨⟨by decide +kernel, by decide +kernel⟩, List.mem_of_getElem? (i := 12) (by decide +kernel), List.mem_of_getElem? (i := 566) (by decide +kernel), List.mem_of_getElem? (i := 567) (by decide +kernel)⟩
theorem lw_p20 : lw_okq (⟨"WhoIsThere", "writeTellings", "(LWhoIsThere$Host;)V"⟩, 13) := ⟨⟨by decide +kernel, by decide +kernel⟩, List.mem_of_getElem? (i := 12) (by decide +kernel), List.mem_of_getElem? (i := 574) (by decide +kernel), List.mem_of_getElem? (i := 575) (by decide +kernel)⟩
theorem lw_p21 : lw_okq (⟨"WhoIsThere", "writeTelling", "(LWhoIsThere$Host;LWhoIsThere$Service;Z)V"⟩, 13) := ⟨⟨by decide +kernel, by decide +kernel⟩, List.mem_of_getElem? (i := 12) (by decide +kernel), List.mem_of_getElem? (i := 583) (by decide +kernel), List.mem_of_getElem? (i := 584) (by decide +kernel)⟩
theorem lw_p22 : lw_okq (⟨"WhoIsThere", "speaksFor", "(LWhoIsThere$Host;LWhoIsThere$Service;)Z"⟩, 13) := ⟨⟨by decide +kernel, by decide +kernel⟩, List.mem_of_getElem? (i := 12) (by decide +kernel), List.mem_of_getElem? (i := 587) (by decide +kernel), List.mem_of_getElem? (i := 588) (by decide +kernel)⟩
theorem lw_p23 : lw_okq (⟨"WhoIsThere", "hearLetters", "()V"⟩, 13) := ⟨⟨by decide +kernel, by decide +kernel⟩, List.mem_of_getElem? (i := 12) (by decide +kernel), List.mem_of_getElem? (i := 607) (by decide +kernel), List.mem_of_getElem? (i := 608) (by decide +kernel)⟩
theorem lw_p24 : lw_okq (⟨"WhoIsThere", "sendOut", "(LWhoIsThere$Host;LWhoIsThere$Letter;)V"⟩, 13) := ⟨⟨by decide +kernel, by decide +kernel⟩, List.mem_of_getElem? (i := 12) (by decide +kernel), List.mem_of_getElem? (i := 611) (by decide +kernel), List.mem_of_getElem? (i := 612) (by decide +kernel)⟩
theorem lw_p25 : lw_okq (⟨"WhoIsThere", "takeUp", "(LWhoIsThere$Host;LWhoIsThere$Bridge;LWhoIsThere$Letter;)V"⟩, 13) := ⟨⟨by decide +kernel, by decide +kernel⟩, List.mem_of_getElem? (i := 12) (by decide +kernel), List.mem_of_getElem? (i := 619) (by decide +kernel), List.mem_of_getElem? (i := 620) (by decide +kernel)⟩
theorem lw_p26 : lw_okq (⟨"WhoIsThere", "hearLetter", "(LWhoIsThere$Host;LWhoIsThere$Host;LWhoIsThere$Letter;)V"⟩, 13) := ⟨⟨by decide +kernel, by decide +kernel⟩, List.mem_of_getElem? (i := 12) (by decide +kernel), List.mem_of_getElem? (i := 676) (by decide +kernel), List.mem_of_getElem? (i := 677) (by decide +kernel)⟩
theorem lw_p27 : lw_okq (⟨"WhoIsThere", "hearAsk", "(LWhoIsThere$Host;LWhoIsThere$Host;LWhoIsThere$Letter;I)V"⟩, 13) := ⟨⟨by decide +kernel, by decide +kernel⟩, List.mem_of_getElem? (i := 12) (by decide +kernel), List.mem_of_getElem? (i := 681) (by decide +kernel), List.mem_of_getElem? (i := 682) (by decide +kernel)⟩
theorem lw_p28 : lw_okq (⟨"WhoIsThere", "leastKeeperOn", "(ILWhoIsThere$Host;)LWhoIsThere$Host;"⟩, 13) := ⟨⟨by decide +kernel, by decide +kernel⟩, List.mem_of_getElem? (i := 12) (by decide +kernel), List.mem_of_getElem? (i := 685) (by decide +kernel), List.mem_of_getElem? (i := 686) (by decide +kernel)⟩
theorem lw_p29 : lw_okq (⟨"WhoIsThere", "canAnswer", "(LWhoIsThere$Host;II)Z"⟩, 13) := ⟨⟨by decide +kernel, by decide +kernel⟩, List.mem_of_getElem? (i := 12) (by decide +kernel), List.mem_of_getElem? (i := 689) (by decide +kernel), List.mem_of_getElem? (i := 690) (by decide +kernel)⟩
theorem lw_p30 : lw_okq (⟨"WhoIsThere", "contend", "(LWhoIsThere$Host;LWhoIsThere$Service;IZ)V"⟩, 13) := ⟨⟨by decide +kernel, by decide +kernel⟩, List.mem_of_getElem? (i := 12) (by decide +kernel), List.mem_of_getElem? (i := 698) (by decide +kernel), List.mem_of_getElem? (i := 699) (by decide +kernel)⟩
theorem lw_p31 : lw_okq (⟨"WhoIsThere", "isStronger", "(LWhoIsThere$Service;LWhoIsThere$Service;)Z"⟩, 13) := ⟨⟨by decide +kernel, by decide +kernel⟩, List.mem_of_getElem? (i := 12) (by decide +kernel), List.mem_of_getElem? (i := 702) (by decide +kernel), List.mem_of_getElem? (i := 703) (by decide +kernel)⟩
def lw_privs_2 : List (MethodName × Nat) := [(⟨"WhoIsThere", "writeCarried", "(LWhoIsThere$Host;LWhoIsThere$Bridge;)V"⟩, 13), (⟨"WhoIsThere", "writeAsks", "(LWhoIsThere$Host;)V"⟩, 13), (⟨"WhoIsThere", "knownTo", "(LWhoIsThere$Host;I)I"⟩, 13), (⟨"WhoIsThere", "writeClaims", "(LWhoIsThere$Host;)V"⟩, 13), (⟨"WhoIsThere", "writeTellings", "(LWhoIsThere$Host;)V"⟩, 13), (⟨"WhoIsThere", "writeTelling", "(LWhoIsThere$Host;LWhoIsThere$Service;Z)V"⟩, 13), (⟨"WhoIsThere", "speaksFor", "(LWhoIsThere$Host;LWhoIsThere$Service;)Z"⟩, 13), (⟨"WhoIsThere", "hearLetters", "()V"⟩, 13), (⟨"WhoIsThere", "sendOut", "(LWhoIsThere$Host;LWhoIsThere$Letter;)V"⟩, 13), (⟨"WhoIsThere", "takeUp", "(LWhoIsThere$Host;LWhoIsThere$Bridge;LWhoIsThere$Letter;)V"⟩, 13), (⟨"WhoIsThere", "hearLetter", "(LWhoIsThere$Host;LWhoIsThere$Host;LWhoIsThere$Letter;)V"⟩, 13), (⟨"WhoIsThere", "hearAsk", "(LWhoIsThere$Host;LWhoIsThere$Host;LWhoIsThere$Letter;I)V"⟩, 13), (⟨"WhoIsThere", "leastKeeperOn", "(ILWhoIsThere$Host;)LWhoIsThere$Host;"⟩, 13), (⟨"WhoIsThere", "canAnswer", "(LWhoIsThere$Host;II)Z"⟩, 13), (⟨"WhoIsThere", "contend", "(LWhoIsThere$Host;LWhoIsThere$Service;IZ)V"⟩, 13), (⟨"WhoIsThere", "isStronger", "(LWhoIsThere$Service;LWhoIsThere$Service;)Z"⟩, 13)]
theorem lw_r2 : ∀ q ∈ lw_privs_2, lw_okq q := List.forall_mem_cons.mpr ⟨lw_p16, List.forall_mem_cons.mpr ⟨lw_p17, List.forall_mem_cons.mpr ⟨lw_p18, List.forall_mem_cons.mpr ⟨lw_p19, List.forall_mem_cons.mpr ⟨lw_p20, List.forall_mem_cons.mpr ⟨lw_p21, List.forall_mem_cons.mpr ⟨lw_p22, List.forall_mem_cons.mpr ⟨lw_p23, List.forall_mem_cons.mpr ⟨lw_p24, List.forall_mem_cons.mpr ⟨lw_p25, List.forall_mem_cons.mpr ⟨lw_p26, List.forall_mem_cons.mpr ⟨lw_p27, List.forall_mem_cons.mpr ⟨lw_p28, List.forall_mem_cons.mpr ⟨lw_p29, List.forall_mem_cons.mpr ⟨lw_p30, List.forall_mem_cons.mpr ⟨lw_p31, fun _ h => absurd h List.not_mem_nil⟩⟩⟩⟩⟩⟩⟩⟩⟩⟩⟩⟩⟩⟩⟩⟩
theorem lw_p32 : lw_okq (⟨"WhoIsThere", "giveWay", "(LWhoIsThere$Service;)V"⟩, 13) := ⟨⟨by decide +kernel, by decide +kernel⟩, List.mem_of_getElem? (i := 12) (by decide +kernel), List.mem_of_getElem? (i := 706) (by decide +kernel), List.mem_of_getElem? (i := 707) (by decide +kernel)⟩
theorem lw_p33 : lw_okq (⟨"WhoIsThere", "hearTelling", "(LWhoIsThere$Host;LWhoIsThere$Service;LWhoIsThere$Letter;)V"⟩, 13) := ⟨⟨by decide +kernel, by decide +kernel⟩, List.mem_of_getElem? (i := 12) (by decide +kernel), List.mem_of_getElem? (i := 719) (by decide +kernel), List.mem_of_getElem? (i := 720) (by decide +kernel)⟩
theorem lw_p34 : lw_okq (⟨"WhoIsThere", "otherRecorded", "(LWhoIsThere$Store;LWhoIsThere$Service;I)LWhoIsThere$Service;"⟩, 13) := ⟨⟨by decide +kernel, by decide +kernel⟩, List.mem_of_getElem? (i := 12) (by decide +kernel), List.mem_of_getElem? (i := 723) (by decide +kernel), List.mem_of_getElem? (i := 724) (by decide +kernel)⟩
theorem lw_p35 : lw_okq (⟨"WhoIsThere", "forgetWhatEnds", "()V"⟩, 13) := ⟨⟨by decide +kernel, by decide +kernel⟩, List.mem_of_getElem? (i := 12) (by decide +kernel), List.mem_of_getElem? (i := 735) (by decide +kernel), List.mem_of_getElem? (i := 736) (by decide +kernel)⟩
theorem lw_p36 : lw_okq (⟨"WhoIsThere", "isFound", "(LWhoIsThere$Store;III)Z"⟩, 13) := ⟨⟨by decide +kernel, by decide +kernel⟩, List.mem_of_getElem? (i := 12) (by decide +kernel), List.mem_of_getElem? (i := 749) (by decide +kernel), List.mem_of_getElem? (i := 750) (by decide +kernel)⟩
theorem lw_p37 : lw_okq (⟨"WhoIsThere", "hasProxyAwake", "(LWhoIsThere$Host;)Z"⟩, 13) := ⟨⟨by decide +kernel, by decide +kernel⟩, List.mem_of_getElem? (i := 12) (by decide +kernel), List.mem_of_getElem? (i := 765) (by decide +kernel), List.mem_of_getElem? (i := 766) (by decide +kernel)⟩
theorem lw_p38 : lw_okq (⟨"WhoIsThere", "isSpokenForOn", "(LWhoIsThere$Service;I)Z"⟩, 13) := ⟨⟨by decide +kernel, by decide +kernel⟩, List.mem_of_getElem? (i := 12) (by decide +kernel), List.mem_of_getElem? (i := 792) (by decide +kernel), List.mem_of_getElem? (i := 793) (by decide +kernel)⟩
theorem lw_p39 : lw_okq (⟨"WhoIsThereModel", "mayOffer", "(IIII)Z"⟩, 60) := ⟨⟨by decide +kernel, by decide +kernel⟩, List.mem_of_getElem? (i := 800) (by decide +kernel), List.mem_of_getElem? (i := 999) (by decide +kernel), List.mem_of_getElem? (i := 1000) (by decide +kernel)⟩
theorem lw_p40 : lw_okq (⟨"WhoIsThereModel", "isUp", "(I)Z"⟩, 60) := ⟨⟨by decide +kernel, by decide +kernel⟩, List.mem_of_getElem? (i := 800) (by decide +kernel), List.mem_of_getElem? (i := 1003) (by decide +kernel), List.mem_of_getElem? (i := 1004) (by decide +kernel)⟩
theorem lw_p41 : lw_okq (⟨"WhoIsThereModel", "isAwake", "(I)Z"⟩, 60) := ⟨⟨by decide +kernel, by decide +kernel⟩, List.mem_of_getElem? (i := 800) (by decide +kernel), List.mem_of_getElem? (i := 1007) (by decide +kernel), List.mem_of_getElem? (i := 1008) (by decide +kernel)⟩
theorem lw_p42 : lw_okq (⟨"WhoIsThereModel", "isHost", "(I)Z"⟩, 60) := ⟨⟨by decide +kernel, by decide +kernel⟩, List.mem_of_getElem? (i := 800) (by decide +kernel), List.mem_of_getElem? (i := 1011) (by decide +kernel), List.mem_of_getElem? (i := 1012) (by decide +kernel)⟩
theorem lw_p43 : lw_okq (⟨"WhoIsThereModel", "many", "(I)I"⟩, 60) := ⟨⟨by decide +kernel, by decide +kernel⟩, List.mem_of_getElem? (i := 800) (by decide +kernel), List.mem_of_getElem? (i := 1015) (by decide +kernel), List.mem_of_getElem? (i := 1016) (by decide +kernel)⟩
theorem lw_p44 : lw_okq (⟨"WhoIsThereModel", "isNamed", "(III)Z"⟩, 60) := ⟨⟨by decide +kernel, by decide +kernel⟩, List.mem_of_getElem? (i := 800) (by decide +kernel), List.mem_of_getElem? (i := 1019) (by decide +kernel), List.mem_of_getElem? (i := 1020) (by decide +kernel)⟩
theorem lw_p45 : lw_okq (⟨"WhoIsThereModel", "comes", "(IIIII)I"⟩, 60) := ⟨⟨by decide +kernel, by decide +kernel⟩, List.mem_of_getElem? (i := 800) (by decide +kernel), List.mem_of_getElem? (i := 1023) (by decide +kernel), List.mem_of_getElem? (i := 1024) (by decide +kernel)⟩
theorem lw_p46 : lw_okq (⟨"WhoIsThereModel", "isOpen", "(I)Z"⟩, 60) := ⟨⟨by decide +kernel, by decide +kernel⟩, List.mem_of_getElem? (i := 800) (by decide +kernel), List.mem_of_getElem? (i := 1035) (by decide +kernel), List.mem_of_getElem? (i := 1036) (by decide +kernel)⟩
theorem lw_p47 : lw_okq (⟨"WhoIsThereModel", "isService", "(I)Z"⟩, 60) := ⟨⟨by decide +kernel, by decide +kernel⟩, List.mem_of_getElem? (i := 800) (by decide +kernel), List.mem_of_getElem? (i := 1039) (by decide +kernel), List.mem_of_getElem? (i := 1040) (by decide +kernel)⟩
def lw_privs_3 : List (MethodName × Nat) := [(⟨"WhoIsThere", "giveWay", "(LWhoIsThere$Service;)V"⟩, 13), (⟨"WhoIsThere", "hearTelling", "(LWhoIsThere$Host;LWhoIsThere$Service;LWhoIsThere$Letter;)V"⟩, 13), (⟨"WhoIsThere", "otherRecorded", "(LWhoIsThere$Store;LWhoIsThere$Service;I)LWhoIsThere$Service;"⟩, 13), (⟨"WhoIsThere", "forgetWhatEnds", "()V"⟩, 13), (⟨"WhoIsThere", "isFound", "(LWhoIsThere$Store;III)Z"⟩, 13), (⟨"WhoIsThere", "hasProxyAwake", "(LWhoIsThere$Host;)Z"⟩, 13), (⟨"WhoIsThere", "isSpokenForOn", "(LWhoIsThere$Service;I)Z"⟩, 13), (⟨"WhoIsThereModel", "mayOffer", "(IIII)Z"⟩, 60), (⟨"WhoIsThereModel", "isUp", "(I)Z"⟩, 60), (⟨"WhoIsThereModel", "isAwake", "(I)Z"⟩, 60), (⟨"WhoIsThereModel", "isHost", "(I)Z"⟩, 60), (⟨"WhoIsThereModel", "many", "(I)I"⟩, 60), (⟨"WhoIsThereModel", "isNamed", "(III)Z"⟩, 60), (⟨"WhoIsThereModel", "comes", "(IIIII)I"⟩, 60), (⟨"WhoIsThereModel", "isOpen", "(I)Z"⟩, 60), (⟨"WhoIsThereModel", "isService", "(I)Z"⟩, 60)]
theorem lw_r3 : ∀ q ∈ lw_privs_3, lw_okq q := List.forall_mem_cons.mpr ⟨lw_p32, List.forall_mem_cons.mpr ⟨lw_p33, List.forall_mem_cons.mpr ⟨lw_p34, List.forall_mem_cons.mpr ⟨lw_p35, List.forall_mem_cons.mpr ⟨lw_p36, List.forall_mem_cons.mpr ⟨lw_p37, List.forall_mem_cons.mpr ⟨lw_p38, List.forall_mem_cons.mpr ⟨lw_p39, List.forall_mem_cons.mpr ⟨lw_p40, List.forall_mem_cons.mpr ⟨lw_p41, List.forall_mem_cons.mpr ⟨lw_p42, List.forall_mem_cons.mpr ⟨lw_p43, List.forall_mem_cons.mpr ⟨lw_p44, List.forall_mem_cons.mpr ⟨lw_p45, List.forall_mem_cons.mpr ⟨lw_p46, List.forall_mem_cons.mpr ⟨lw_p47, fun _ h => absurd h List.not_mem_nil⟩⟩⟩⟩⟩⟩⟩⟩⟩⟩⟩⟩⟩⟩⟩⟩
theorem lw_p48 : lw_okq (⟨"WhoIsThereModel", "goes", "(IZ)V"⟩, 60) := ⟨⟨by decide +kernel, by decide +kernel⟩, List.mem_of_getElem? (i := 800) (by decide +kernel), List.mem_of_getElem? (i := 1043) (by decide +kernel), List.mem_of_getElem? (i := 1044) (by decide +kernel)⟩
theorem lw_p49 : lw_okq (⟨"WhoIsThereModel", "wakes", "(I)V"⟩, 60) := ⟨⟨by decide +kernel, by decide +kernel⟩, List.mem_of_getElem? (i := 800) (by decide +kernel), List.mem_of_getElem? (i := 1066) (by decide +kernel), List.mem_of_getElem? (i := 1067) (by decide +kernel)⟩
theorem lw_p50 : lw_okq (⟨"WhoIsThereModel", "isGone", "(I)V"⟩, 60) := ⟨⟨by decide +kernel, by decide +kernel⟩, List.mem_of_getElem? (i := 800) (by decide +kernel), List.mem_of_getElem? (i := 1074) (by decide +kernel), List.mem_of_getElem? (i := 1075) (by decide +kernel)⟩
theorem lw_p51 : lw_okq (⟨"WhoIsThereModel", "empties", "(I)V"⟩, 60) := ⟨⟨by decide +kernel, by decide +kernel⟩, List.mem_of_getElem? (i := 800) (by decide +kernel), List.mem_of_getElem? (i := 1078) (by decide +kernel), List.mem_of_getElem? (i := 1079) (by decide +kernel)⟩
theorem lw_p52 : lw_okq (⟨"WhoIsThereModel", "clears", "(I)V"⟩, 60) := ⟨⟨by decide +kernel, by decide +kernel⟩, List.mem_of_getElem? (i := 800) (by decide +kernel), List.mem_of_getElem? (i := 1082) (by decide +kernel), List.mem_of_getElem? (i := 1083) (by decide +kernel)⟩
theorem lw_p53 : lw_okq (⟨"WhoIsThereModel", "oneTick", "(I)V"⟩, 60) := ⟨⟨by decide +kernel, by decide +kernel⟩, List.mem_of_getElem? (i := 800) (by decide +kernel), List.mem_of_getElem? (i := 1115) (by decide +kernel), List.mem_of_getElem? (i := 1116) (by decide +kernel)⟩
theorem lw_p54 : lw_okq (⟨"WhoIsThereModel", "writesAll", "(II)V"⟩, 60) := ⟨⟨by decide +kernel, by decide +kernel⟩, List.mem_of_getElem? (i := 800) (by decide +kernel), List.mem_of_getElem? (i := 1119) (by decide +kernel), List.mem_of_getElem? (i := 1120) (by decide +kernel)⟩
theorem lw_p55 : lw_okq (⟨"WhoIsThereModel", "byes", "(I)V"⟩, 60) := ⟨⟨by decide +kernel, by decide +kernel⟩, List.mem_of_getElem? (i := 800) (by decide +kernel), List.mem_of_getElem? (i := 1123) (by decide +kernel), List.mem_of_getElem? (i := 1124) (by decide +kernel)⟩
theorem lw_p56 : lw_okq (⟨"WhoIsThereModel", "writes", "(II)V"⟩, 60) := ⟨⟨by decide +kernel, by decide +kernel⟩, List.mem_of_getElem? (i := 800) (by decide +kernel), List.mem_of_getElem? (i := 1127) (by decide +kernel), List.mem_of_getElem? (i := 1128) (by decide +kernel)⟩
theorem lw_p57 : lw_okq (⟨"WhoIsThereModel", "isBare", "(I)Z"⟩, 60) := ⟨⟨by decide +kernel, by decide +kernel⟩, List.mem_of_getElem? (i := 800) (by decide +kernel), List.mem_of_getElem? (i := 1131) (by decide +kernel), List.mem_of_getElem? (i := 1132) (by decide +kernel)⟩
theorem lw_p58 : lw_okq (⟨"WhoIsThereModel", "takesUp", "(III)V"⟩, 60) := ⟨⟨by decide +kernel, by decide +kernel⟩, List.mem_of_getElem? (i := 800) (by decide +kernel), List.mem_of_getElem? (i := 1135) (by decide +kernel), List.mem_of_getElem? (i := 1136) (by decide +kernel)⟩
theorem lw_p59 : lw_okq (⟨"WhoIsThereModel", "asks", "(II)V"⟩, 60) := ⟨⟨by decide +kernel, by decide +kernel⟩, List.mem_of_getElem? (i := 800) (by decide +kernel), List.mem_of_getElem? (i := 1139) (by decide +kernel), List.mem_of_getElem? (i := 1140) (by decide +kernel)⟩
theorem lw_p60 : lw_okq (⟨"WhoIsThereModel", "knownTo", "(III)I"⟩, 60) := ⟨⟨by decide +kernel, by decide +kernel⟩, List.mem_of_getElem? (i := 800) (by decide +kernel), List.mem_of_getElem? (i := 1143) (by decide +kernel), List.mem_of_getElem? (i := 1144) (by decide +kernel)⟩
theorem lw_p61 : lw_okq (⟨"WhoIsThereModel", "tells", "(II)V"⟩, 60) := ⟨⟨by decide +kernel, by decide +kernel⟩, List.mem_of_getElem? (i := 800) (by decide +kernel), List.mem_of_getElem? (i := 1147) (by decide +kernel), List.mem_of_getElem? (i := 1148) (by decide +kernel)⟩
theorem lw_p62 : lw_okq (⟨"WhoIsThereModel", "speaksFor", "(II)Z"⟩, 60) := ⟨⟨by decide +kernel, by decide +kernel⟩, List.mem_of_getElem? (i := 800) (by decide +kernel), List.mem_of_getElem? (i := 1151) (by decide +kernel), List.mem_of_getElem? (i := 1152) (by decide +kernel)⟩
theorem lw_p63 : lw_okq (⟨"WhoIsThereModel", "isHeard", "(II)V"⟩, 60) := ⟨⟨by decide +kernel, by decide +kernel⟩, List.mem_of_getElem? (i := 800) (by decide +kernel), List.mem_of_getElem? (i := 1155) (by decide +kernel), List.mem_of_getElem? (i := 1156) (by decide +kernel)⟩
def lw_privs_4 : List (MethodName × Nat) := [(⟨"WhoIsThereModel", "goes", "(IZ)V"⟩, 60), (⟨"WhoIsThereModel", "wakes", "(I)V"⟩, 60), (⟨"WhoIsThereModel", "isGone", "(I)V"⟩, 60), (⟨"WhoIsThereModel", "empties", "(I)V"⟩, 60), (⟨"WhoIsThereModel", "clears", "(I)V"⟩, 60), (⟨"WhoIsThereModel", "oneTick", "(I)V"⟩, 60), (⟨"WhoIsThereModel", "writesAll", "(II)V"⟩, 60), (⟨"WhoIsThereModel", "byes", "(I)V"⟩, 60), (⟨"WhoIsThereModel", "writes", "(II)V"⟩, 60), (⟨"WhoIsThereModel", "isBare", "(I)Z"⟩, 60), (⟨"WhoIsThereModel", "takesUp", "(III)V"⟩, 60), (⟨"WhoIsThereModel", "asks", "(II)V"⟩, 60), (⟨"WhoIsThereModel", "knownTo", "(III)I"⟩, 60), (⟨"WhoIsThereModel", "tells", "(II)V"⟩, 60), (⟨"WhoIsThereModel", "speaksFor", "(II)Z"⟩, 60), (⟨"WhoIsThereModel", "isHeard", "(II)V"⟩, 60)]
theorem lw_r4 : ∀ q ∈ lw_privs_4, lw_okq q := List.forall_mem_cons.mpr ⟨lw_p48, List.forall_mem_cons.mpr ⟨lw_p49, List.forall_mem_cons.mpr ⟨lw_p50, List.forall_mem_cons.mpr ⟨lw_p51, List.forall_mem_cons.mpr ⟨lw_p52, List.forall_mem_cons.mpr ⟨lw_p53, List.forall_mem_cons.mpr ⟨lw_p54, List.forall_mem_cons.mpr ⟨lw_p55, List.forall_mem_cons.mpr ⟨lw_p56, List.forall_mem_cons.mpr ⟨lw_p57, List.forall_mem_cons.mpr ⟨lw_p58, List.forall_mem_cons.mpr ⟨lw_p59, List.forall_mem_cons.mpr ⟨lw_p60, List.forall_mem_cons.mpr ⟨lw_p61, List.forall_mem_cons.mpr ⟨lw_p62, List.forall_mem_cons.mpr ⟨lw_p63, fun _ h => absurd h List.not_mem_nil⟩⟩⟩⟩⟩⟩⟩⟩⟩⟩⟩⟩⟩⟩⟩⟩
theorem lw_p64 : lw_okq (⟨"WhoIsThereModel", "carries", "(II)V"⟩, 60) := ⟨⟨by decide +kernel, by decide +kernel⟩, List.mem_of_getElem? (i := 800) (by decide +kernel), List.mem_of_getElem? (i := 1159) (by decide +kernel), List.mem_of_getElem? (i := 1160) (by decide +kernel)⟩
theorem lw_p65 : lw_okq (⟨"WhoIsThereModel", "isCarried", "(IIII)Z"⟩, 60) := ⟨⟨by decide +kernel, by decide +kernel⟩, List.mem_of_getElem? (i := 800) (by decide +kernel), List.mem_of_getElem? (i := 1163) (by decide +kernel), List.mem_of_getElem? (i := 1164) (by decide +kernel)⟩
theorem lw_p66 : lw_okq (⟨"WhoIsThereModel", "hears", "(III)V"⟩, 60) := ⟨⟨by decide +kernel, by decide +kernel⟩, List.mem_of_getElem? (i := 800) (by decide +kernel), List.mem_of_getElem? (i := 1167) (by decide +kernel), List.mem_of_getElem? (i := 1168) (by decide +kernel)⟩
theorem lw_p67 : lw_okq (⟨"WhoIsThereModel", "hearsAsk", "(IIII)V"⟩, 60) := ⟨⟨by decide +kernel, by decide +kernel⟩, List.mem_of_getElem? (i := 800) (by decide +kernel), List.mem_of_getElem? (i := 1171) (by decide +kernel), List.mem_of_getElem? (i := 1172) (by decide +kernel)⟩
theorem lw_p68 : lw_okq (⟨"WhoIsThereModel", "keeperOn", "(II)I"⟩, 60) := ⟨⟨by decide +kernel, by decide +kernel⟩, List.mem_of_getElem? (i := 800) (by decide +kernel), List.mem_of_getElem? (i := 1175) (by decide +kernel), List.mem_of_getElem? (i := 1176) (by decide +kernel)⟩
theorem lw_p69 : lw_okq (⟨"WhoIsThereModel", "isDue", "(III)V"⟩, 60) := ⟨⟨by decide +kernel, by decide +kernel⟩, List.mem_of_getElem? (i := 800) (by decide +kernel), List.mem_of_getElem? (i := 1179) (by decide +kernel), List.mem_of_getElem? (i := 1180) (by decide +kernel)⟩
theorem lw_p70 : lw_okq (⟨"WhoIsThereModel", "hearsClaim", "(IIII)V"⟩, 60) := ⟨⟨by decide +kernel, by decide +kernel⟩, List.mem_of_getElem? (i := 800) (by decide +kernel), List.mem_of_getElem? (i := 1183) (by decide +kernel), List.mem_of_getElem? (i := 1184) (by decide +kernel)⟩
theorem lw_p71 : lw_okq (⟨"WhoIsThereModel", "isStronger", "(II)Z"⟩, 60) := ⟨⟨by decide +kernel, by decide +kernel⟩, List.mem_of_getElem? (i := 800) (by decide +kernel), List.mem_of_getElem? (i := 1187) (by decide +kernel), List.mem_of_getElem? (i := 1188) (by decide +kernel)⟩
theorem lw_p72 : lw_okq (⟨"WhoIsThereModel", "yieldsName", "(I)V"⟩, 60) := ⟨⟨by decide +kernel, by decide +kernel⟩, List.mem_of_getElem? (i := 800) (by decide +kernel), List.mem_of_getElem? (i := 1191) (by decide +kernel), List.mem_of_getElem? (i := 1192) (by decide +kernel)⟩
theorem lw_p73 : lw_okq (⟨"WhoIsThereModel", "hearsTelling", "(IIII)V"⟩, 60) := ⟨⟨by decide +kernel, by decide +kernel⟩, List.mem_of_getElem? (i := 800) (by decide +kernel), List.mem_of_getElem? (i := 1195) (by decide +kernel), List.mem_of_getElem? (i := 1196) (by decide +kernel)⟩
theorem lw_p74 : lw_okq (⟨"WhoIsThereModel", "isSpoken", "(II)Z"⟩, 60) := ⟨⟨by decide +kernel, by decide +kernel⟩, List.mem_of_getElem? (i := 800) (by decide +kernel), List.mem_of_getElem? (i := 1223) (by decide +kernel), List.mem_of_getElem? (i := 1224) (by decide +kernel)⟩
def lw_privs_5 : List (MethodName × Nat) := [(⟨"WhoIsThereModel", "carries", "(II)V"⟩, 60), (⟨"WhoIsThereModel", "isCarried", "(IIII)Z"⟩, 60), (⟨"WhoIsThereModel", "hears", "(III)V"⟩, 60), (⟨"WhoIsThereModel", "hearsAsk", "(IIII)V"⟩, 60), (⟨"WhoIsThereModel", "keeperOn", "(II)I"⟩, 60), (⟨"WhoIsThereModel", "isDue", "(III)V"⟩, 60), (⟨"WhoIsThereModel", "hearsClaim", "(IIII)V"⟩, 60), (⟨"WhoIsThereModel", "isStronger", "(II)Z"⟩, 60), (⟨"WhoIsThereModel", "yieldsName", "(I)V"⟩, 60), (⟨"WhoIsThereModel", "hearsTelling", "(IIII)V"⟩, 60), (⟨"WhoIsThereModel", "isSpoken", "(II)Z"⟩, 60)]
theorem lw_r5 : ∀ q ∈ lw_privs_5, lw_okq q := List.forall_mem_cons.mpr ⟨lw_p64, List.forall_mem_cons.mpr ⟨lw_p65, List.forall_mem_cons.mpr ⟨lw_p66, List.forall_mem_cons.mpr ⟨lw_p67, List.forall_mem_cons.mpr ⟨lw_p68, List.forall_mem_cons.mpr ⟨lw_p69, List.forall_mem_cons.mpr ⟨lw_p70, List.forall_mem_cons.mpr ⟨lw_p71, List.forall_mem_cons.mpr ⟨lw_p72, List.forall_mem_cons.mpr ⟨lw_p73, List.forall_mem_cons.mpr ⟨lw_p74, fun _ h => absurd h List.not_mem_nil⟩⟩⟩⟩⟩⟩⟩⟩⟩⟩⟩
def lw_privs : List (MethodName × Nat) := lw_privs_1 ++ (lw_privs_2 ++ (lw_privs_3 ++ (lw_privs_4 ++ (lw_privs_5))))
def lw_tbl : List Cond := k2_sels lw_privs ++ tables_1
theorem lw_privs_ok : ∀ q ∈ lw_privs, lw_okq q := by
  show ∀ q ∈ lw_privs_1 ++ (lw_privs_2 ++ (lw_privs_3 ++ (lw_privs_4 ++ (lw_privs_5)))), lw_okq q
  exact List.forall_mem_append.mpr ⟨lw_r1, List.forall_mem_append.mpr ⟨lw_r2, List.forall_mem_append.mpr ⟨lw_r3, List.forall_mem_append.mpr ⟨lw_r4, lw_r5⟩⟩⟩⟩
-- ===== end of PART A; then your names; then what follows =====
end
section
/-! names, field tables and method contexts of the program, by program out of the printed claim -/
def RX0 : String := "WhoIsThere$Answers"
def TX0 : u_T := fun k => match k with
  | 0 => ("WhoIsThere$Answers", "due", "[I", true)
  | _ => ("WhoIsThere$Answers", "waiting", "I", false)
def tyX0 : Nat → FieldType := fun k => match k with
  | 0 => .array .int
  | _ => .int
theorem nmX0 : ∀ a, a < 2 → ∀ b, b < 2 → a ≠ b → (TX0 a).2.1 ≠ (TX0 b).2.1 := by decide +kernel
theorem tyX0_ok : ∀ k, k < 2 → parseFieldDescriptor (TX0 k).2.2.1 = some (tyX0 k) := by decide +kernel
abbrev cX0_init : ByteArray := prog_2_method_1_code
def yX0_init : MethodName := ⟨RX0, "<init>", "()V"⟩
abbrev cX0_isDue : ByteArray := prog_2_method_2_code
def yX0_isDue : MethodName := ⟨RX0, "isDue", "(II)Z"⟩
abbrev cX0_size : ByteArray := prog_2_method_3_code
def yX0_size : MethodName := ⟨RX0, "size", "()I"⟩
abbrev cX0_comeDue : ByteArray := prog_2_method_4_code
def yX0_comeDue : MethodName := ⟨RX0, "comeDue", "(II)V"⟩
abbrev cX0_remove : ByteArray := prog_2_method_5_code
def yX0_remove : MethodName := ⟨RX0, "remove", "(I)V"⟩
abbrev cX0_clear : ByteArray := prog_2_method_6_code
def yX0_clear : MethodName := ⟨RX0, "clear", "()V"⟩
def RX1 : String := "WhoIsThere$Asks"
def TX1 : u_T := fun k => match k with
  | 0 => ("WhoIsThere$Asks", "marks", "[I", true)
  | 1 => ("WhoIsThere$Asks", "due", "[I", true)
  | _ => ("WhoIsThere$Asks", "waiting", "I", false)
def tyX1 : Nat → FieldType := fun k => match k with
  | 0 => .array .int
  | 1 => .array .int
  | _ => .int
theorem nmX1 : ∀ a, a < 3 → ∀ b, b < 3 → a ≠ b → (TX1 a).2.1 ≠ (TX1 b).2.1 := by decide +kernel
theorem tyX1_ok : ∀ k, k < 3 → parseFieldDescriptor (TX1 k).2.2.1 = some (tyX1 k) := by decide +kernel
abbrev cX1_init : ByteArray := prog_3_method_1_code
def yX1_init : MethodName := ⟨RX1, "<init>", "()V"⟩
abbrev cX1_has : ByteArray := prog_3_method_2_code
def yX1_has : MethodName := ⟨RX1, "has", "(I)Z"⟩
abbrev cX1_isDue : ByteArray := prog_3_method_3_code
def yX1_isDue : MethodName := ⟨RX1, "isDue", "(II)Z"⟩
abbrev cX1_isEmpty : ByteArray := prog_3_method_4_code
def yX1_isEmpty : MethodName := ⟨RX1, "isEmpty", "()Z"⟩
abbrev cX1_size : ByteArray := prog_3_method_5_code
def yX1_size : MethodName := ⟨RX1, "size", "()I"⟩
abbrev cX1_put : ByteArray := prog_3_method_6_code
def yX1_put : MethodName := ⟨RX1, "put", "(III)V"⟩
abbrev cX1_remove : ByteArray := prog_3_method_7_code
def yX1_remove : MethodName := ⟨RX1, "remove", "(I)V"⟩
abbrev cX1_clear : ByteArray := prog_3_method_8_code
def yX1_clear : MethodName := ⟨RX1, "clear", "()V"⟩
def RX2 : String := "WhoIsThere$Bridge"
def TX2 : u_T := fun k => match k with
  | 0 => ("WhoIsThere$Bridge", "kinds", "I", true)
  | 1 => ("WhoIsThere$Bridge", "net", "I", false)
  | 2 => ("WhoIsThere$Bridge", "letter", "LWhoIsThere$Letter;", false)
  | 3 => ("WhoIsThere$Bridge", "waitingForHome", "LWhoIsThere$Letter;", false)
  | _ => ("WhoIsThere$Bridge", "waitingForSecond", "LWhoIsThere$Letter;", false)
def tyX2 : Nat → FieldType := fun k => match k with
  | 0 => .int
  | 1 => .int
  | 2 => .object "WhoIsThere$Letter"
  | 3 => .object "WhoIsThere$Letter"
  | _ => .object "WhoIsThere$Letter"
theorem nmX2 : ∀ a, a < 5 → ∀ b, b < 5 → a ≠ b → (TX2 a).2.1 ≠ (TX2 b).2.1 := by decide +kernel
theorem tyX2_ok : ∀ k, k < 5 → parseFieldDescriptor (TX2 k).2.2.1 = some (tyX2 k) := by decide +kernel
abbrev cX2_init : ByteArray := prog_4_method_1_code
def yX2_init : MethodName := ⟨RX2, "<init>", "(II)V"⟩
abbrev cX2_carries : ByteArray := prog_4_method_2_code
def yX2_carries : MethodName := ⟨RX2, "carries", "(I)Z"⟩
def RX3 : String := "WhoIsThere$Host"
def TX3 : u_T := fun k => match k with
  | 0 => ("WhoIsThere$Host", "number", "I", true)
  | 1 => ("WhoIsThere$Host", "from", "I", true)
  | 2 => ("WhoIsThere$Host", "to", "I", true)
  | 3 => ("WhoIsThere$Host", "rank", "I", true)
  | 4 => ("WhoIsThere$Host", "store", "LWhoIsThere$Store;", true)
  | 5 => ("WhoIsThere$Host", "asks", "LWhoIsThere$Asks;", true)
  | 6 => ("WhoIsThere$Host", "answers", "LWhoIsThere$Answers;", true)
  | 7 => ("WhoIsThere$Host", "net", "I", false)
  | 8 => ("WhoIsThere$Host", "state", "I", false)
  | 9 => ("WhoIsThere$Host", "isKeeper", "Z", false)
  | 10 => ("WhoIsThere$Host", "proxy", "LWhoIsThere$Host;", false)
  | 11 => ("WhoIsThere$Host", "bridge", "LWhoIsThere$Bridge;", false)
  | 12 => ("WhoIsThere$Host", "toLose", "I", false)
  | 13 => ("WhoIsThere$Host", "toMiss", "I", false)
  | 14 => ("WhoIsThere$Host", "written", "I", false)
  | _ => ("WhoIsThere$Host", "letter", "LWhoIsThere$Letter;", false)
def tyX3 : Nat → FieldType := fun k => match k with
  | 0 => .int
  | 1 => .int
  | 2 => .int
  | 3 => .int
  | 4 => .object "WhoIsThere$Store"
  | 5 => .object "WhoIsThere$Asks"
  | 6 => .object "WhoIsThere$Answers"
  | 7 => .int
  | 8 => .int
  | 9 => .boolean
  | 10 => .object "WhoIsThere$Host"
  | 11 => .object "WhoIsThere$Bridge"
  | 12 => .int
  | 13 => .int
  | 14 => .int
  | _ => .object "WhoIsThere$Letter"
theorem nmX3 : ∀ a, a < 16 → ∀ b, b < 16 → a ≠ b → (TX3 a).2.1 ≠ (TX3 b).2.1 := by decide +kernel
theorem tyX3_ok : ∀ k, k < 16 → parseFieldDescriptor (TX3 k).2.2.1 = some (tyX3 k) := by decide +kernel
abbrev cX3_init : ByteArray := prog_5_method_1_code
def yX3_init : MethodName := ⟨RX3, "<init>", "(IIIII)V"⟩
abbrev cX3_hasForName : ByteArray := prog_5_method_2_code
def yX3_hasForName : MethodName := ⟨RX3, "hasForName", "(I)Z"⟩
abbrev cX3_isOn : ByteArray := prog_5_method_3_code
def yX3_isOn : MethodName := ⟨RX3, "isOn", "(I)Z"⟩
abbrev cX3_move : ByteArray := prog_5_method_4_code
def yX3_move : MethodName := ⟨RX3, "move", "(II)V"⟩
abbrev cX3_goAway : ByteArray := prog_5_method_5_code
def yX3_goAway : MethodName := ⟨RX3, "goAway", "()V"⟩
abbrev cX3_clearLetters : ByteArray := prog_5_method_6_code
def yX3_clearLetters : MethodName := ⟨RX3, "clearLetters", "()V"⟩
def RX4 : String := "WhoIsThere$Letter"
def TX4 : u_T := fun k => match k with
  | 0 => ("WhoIsThere$Letter", "net", "I", false)
  | 1 => ("WhoIsThere$Letter", "asks", "I", false)
  | 2 => ("WhoIsThere$Letter", "askMarks", "[I", true)
  | 3 => ("WhoIsThere$Letter", "askKnown", "[I", true)
  | 4 => ("WhoIsThere$Letter", "askBorne", "[I", true)
  | 5 => ("WhoIsThere$Letter", "claims", "I", false)
  | 6 => ("WhoIsThere$Letter", "claimName", "[I", true)
  | 7 => ("WhoIsThere$Letter", "claimBorne", "[I", true)
  | 8 => ("WhoIsThere$Letter", "byes", "I", false)
  | 9 => ("WhoIsThere$Letter", "byeBorne", "[I", true)
  | 10 => ("WhoIsThere$Letter", "tellings", "I", false)
  | 11 => ("WhoIsThere$Letter", "tellName", "[I", true)
  | 12 => ("WhoIsThere$Letter", "tellMarks", "[I", true)
  | 13 => ("WhoIsThere$Letter", "tellLife", "[I", true)
  | _ => ("WhoIsThere$Letter", "tellBorne", "[I", true)
def tyX4 : Nat → FieldType := fun k => match k with
  | 0 => .int
  | 1 => .int
  | 2 => .array .int
  | 3 => .array .int
  | 4 => .array .int
  | 5 => .int
  | 6 => .array .int
  | 7 => .array .int
  | 8 => .int
  | 9 => .array .int
  | 10 => .int
  | 11 => .array .int
  | 12 => .array .int
  | 13 => .array .int
  | _ => .array .int
theorem nmX4 : ∀ a, a < 15 → ∀ b, b < 15 → a ≠ b → (TX4 a).2.1 ≠ (TX4 b).2.1 := by decide +kernel
theorem tyX4_ok : ∀ k, k < 15 → parseFieldDescriptor (TX4 k).2.2.1 = some (tyX4 k) := by decide +kernel
abbrev cX4_init : ByteArray := prog_6_method_1_code
def yX4_init : MethodName := ⟨RX4, "<init>", "()V"⟩
abbrev cX4_isEmpty : ByteArray := prog_6_method_2_code
def yX4_isEmpty : MethodName := ⟨RX4, "isEmpty", "()Z"⟩
abbrev cX4_size : ByteArray := prog_6_method_3_code
def yX4_size : MethodName := ⟨RX4, "size", "()I"⟩
abbrev cX4_clear : ByteArray := prog_6_method_4_code
def yX4_clear : MethodName := ⟨RX4, "clear", "()V"⟩
abbrev cX4_hasAsk : ByteArray := prog_6_method_5_code
def yX4_hasAsk : MethodName := ⟨RX4, "hasAsk", "(I)Z"⟩
abbrev cX4_hasClaim : ByteArray := prog_6_method_6_code
def yX4_hasClaim : MethodName := ⟨RX4, "hasClaim", "(I)Z"⟩
abbrev cX4_hasBye : ByteArray := prog_6_method_7_code
def yX4_hasBye : MethodName := ⟨RX4, "hasBye", "(I)Z"⟩
abbrev cX4_hasTelling : ByteArray := prog_6_method_8_code
def yX4_hasTelling : MethodName := ⟨RX4, "hasTelling", "(I)Z"⟩
abbrev cX4_addAsk : ByteArray := prog_6_method_9_code
def yX4_addAsk : MethodName := ⟨RX4, "addAsk", "(IIII)V"⟩
abbrev cX4_addClaim : ByteArray := prog_6_method_10_code
def yX4_addClaim : MethodName := ⟨RX4, "addClaim", "(III)V"⟩
abbrev cX4_addBye : ByteArray := prog_6_method_11_code
def yX4_addBye : MethodName := ⟨RX4, "addBye", "(II)V"⟩
abbrev cX4_addTelling : ByteArray := prog_6_method_12_code
def yX4_addTelling : MethodName := ⟨RX4, "addTelling", "(IIIII)V"⟩
abbrev cX4_takeAsk : ByteArray := prog_6_method_13_code
def yX4_takeAsk : MethodName := ⟨RX4, "takeAsk", "(LWhoIsThere$Letter;II)V"⟩
abbrev cX4_takeClaim : ByteArray := prog_6_method_14_code
def yX4_takeClaim : MethodName := ⟨RX4, "takeClaim", "(LWhoIsThere$Letter;II)V"⟩
abbrev cX4_takeBye : ByteArray := prog_6_method_15_code
def yX4_takeBye : MethodName := ⟨RX4, "takeBye", "(LWhoIsThere$Letter;II)V"⟩
abbrev cX4_takeTelling : ByteArray := prog_6_method_16_code
def yX4_takeTelling : MethodName := ⟨RX4, "takeTelling", "(LWhoIsThere$Letter;II)V"⟩
def RX5 : String := "WhoIsThere$Service"
def TX5 : u_T := fun k => match k with
  | 0 => ("WhoIsThere$Service", "number", "I", true)
  | 1 => ("WhoIsThere$Service", "host", "LWhoIsThere$Host;", true)
  | 2 => ("WhoIsThere$Service", "kind", "I", true)
  | 3 => ("WhoIsThere$Service", "life", "I", true)
  | 4 => ("WhoIsThere$Service", "isFalse", "Z", true)
  | 5 => ("WhoIsThere$Service", "name", "I", false)
  | 6 => ("WhoIsThere$Service", "marks", "I", false)
  | 7 => ("WhoIsThere$Service", "state", "I", false)
  | 8 => ("WhoIsThere$Service", "claims", "I", false)
  | 9 => ("WhoIsThere$Service", "renewal", "I", false)
  | 10 => ("WhoIsThere$Service", "hasBye", "Z", false)
  | _ => ("WhoIsThere$Service", "yielded", "I", false)
def tyX5 : Nat → FieldType := fun k => match k with
  | 0 => .int
  | 1 => .object "WhoIsThere$Host"
  | 2 => .int
  | 3 => .int
  | 4 => .boolean
  | 5 => .int
  | 6 => .int
  | 7 => .int
  | 8 => .int
  | 9 => .int
  | 10 => .boolean
  | _ => .int
theorem nmX5 : ∀ a, a < 12 → ∀ b, b < 12 → a ≠ b → (TX5 a).2.1 ≠ (TX5 b).2.1 := by decide +kernel
theorem tyX5_ok : ∀ k, k < 12 → parseFieldDescriptor (TX5 k).2.2.1 = some (tyX5 k) := by decide +kernel
abbrev cX5_init : ByteArray := prog_7_method_1_code
def yX5_init : MethodName := ⟨RX5, "<init>", "(ILWhoIsThere$Host;IIIIZ)V"⟩
abbrev cX5_hold : ByteArray := prog_7_method_2_code
def yX5_hold : MethodName := ⟨RX5, "hold", "(I)V"⟩
abbrev cX5_end : ByteArray := prog_7_method_3_code
def yX5_end : MethodName := ⟨RX5, "end", "()V"⟩
abbrev cX5_claimAnew : ByteArray := prog_7_method_4_code
def yX5_claimAnew : MethodName := ⟨RX5, "claimAnew", "(I)V"⟩
def RX6 : String := "WhoIsThere$Store"
def TX6 : u_T := fun k => match k with
  | 0 => ("WhoIsThere$Store", "name", "[I", true)
  | 1 => ("WhoIsThere$Store", "marks", "[I", true)
  | 2 => ("WhoIsThere$Store", "life", "[I", true)
  | 3 => ("WhoIsThere$Store", "end", "[I", true)
  | _ => ("WhoIsThere$Store", "held", "I", false)
def tyX6 : Nat → FieldType := fun k => match k with
  | 0 => .array .int
  | 1 => .array .int
  | 2 => .array .int
  | 3 => .array .int
  | _ => .int
theorem nmX6 : ∀ a, a < 5 → ∀ b, b < 5 → a ≠ b → (TX6 a).2.1 ≠ (TX6 b).2.1 := by decide +kernel
theorem tyX6_ok : ∀ k, k < 5 → parseFieldDescriptor (TX6 k).2.2.1 = some (tyX6 k) := by decide +kernel
abbrev cX6_init : ByteArray := prog_8_method_1_code
def yX6_init : MethodName := ⟨RX6, "<init>", "()V"⟩
abbrev cX6_has : ByteArray := prog_8_method_2_code
def yX6_has : MethodName := ⟨RX6, "has", "(I)Z"⟩
abbrev cX6_size : ByteArray := prog_8_method_3_code
def yX6_size : MethodName := ⟨RX6, "size", "()I"⟩
abbrev cX6_left : ByteArray := prog_8_method_4_code
def yX6_left : MethodName := ⟨RX6, "left", "(II)I"⟩
abbrev cX6_isFresh : ByteArray := prog_8_method_5_code
def yX6_isFresh : MethodName := ⟨RX6, "isFresh", "(II)Z"⟩
abbrev cX6_put : ByteArray := prog_8_method_6_code
def yX6_put : MethodName := ⟨RX6, "put", "(IIIII)V"⟩
abbrev cX6_remove : ByteArray := prog_8_method_7_code
def yX6_remove : MethodName := ⟨RX6, "remove", "(I)V"⟩
abbrev cX6_removeAll : ByteArray := prog_8_method_8_code
def yX6_removeAll : MethodName := ⟨RX6, "removeAll", "(I)V"⟩
abbrev cX6_removeEnding : ByteArray := prog_8_method_9_code
def yX6_removeEnding : MethodName := ⟨RX6, "removeEnding", "(I)V"⟩
abbrev cX6_clear : ByteArray := prog_8_method_10_code
def yX6_clear : MethodName := ⟨RX6, "clear", "()V"⟩
def RX7 : String := "WhoIsThere"
def TX7 : u_T := fun k => match k with
  | 0 => ("WhoIsThere", "hosts", "[LWhoIsThere$Host;", true)
  | 1 => ("WhoIsThere", "services", "[LWhoIsThere$Service;", true)
  | 2 => ("WhoIsThere", "hostCount", "I", false)
  | 3 => ("WhoIsThere", "serviceCount", "I", false)
  | 4 => ("WhoIsThere", "now", "I", false)
  | 5 => ("WhoIsThere", "letters", "I", false)
  | 6 => ("WhoIsThere", "lettersLately", "I", false)
  | 7 => ("WhoIsThere", "lost", "I", false)
  | 8 => ("WhoIsThere", "yields", "I", false)
  | 9 => ("WhoIsThere", "lies", "I", false)
  | 10 => ("WhoIsThere", "leftOut", "I", false)
  | 11 => ("WhoIsThere", "woken", "I", false)
  | _ => ("WhoIsThere", "takenUp", "I", false)
def tyX7 : Nat → FieldType := fun k => match k with
  | 0 => .array (.object "WhoIsThere$Host")
  | 1 => .array (.object "WhoIsThere$Service")
  | 2 => .int
  | 3 => .int
  | 4 => .int
  | 5 => .int
  | 6 => .int
  | 7 => .int
  | 8 => .int
  | 9 => .int
  | 10 => .int
  | 11 => .int
  | _ => .int
theorem nmX7 : ∀ a, a < 13 → ∀ b, b < 13 → a ≠ b → (TX7 a).2.1 ≠ (TX7 b).2.1 := by decide +kernel
theorem tyX7_ok : ∀ k, k < 13 → parseFieldDescriptor (TX7 k).2.2.1 = some (tyX7 k) := by decide +kernel
abbrev cX7_init : ByteArray := prog_1_method_1_code
def yX7_init : MethodName := ⟨RX7, "<init>", "()V"⟩
abbrev cX7_host : ByteArray := prog_1_method_2_code
def yX7_host : MethodName := ⟨RX7, "host", "(IIII)I"⟩
abbrev cX7_offer : ByteArray := prog_1_method_3_code
def yX7_offer : MethodName := ⟨RX7, "offer", "(IIIII)I"⟩
abbrev cX7_lie : ByteArray := prog_1_method_4_code
def yX7_lie : MethodName := ⟨RX7, "lie", "(IIIII)I"⟩
abbrev cX7_drop : ByteArray := prog_1_method_5_code
def yX7_drop : MethodName := ⟨RX7, "drop", "(I)Z"⟩
abbrev cX7_change : ByteArray := prog_1_method_6_code
def yX7_change : MethodName := ⟨RX7, "change", "(II)Z"⟩
abbrev cX7_ask : ByteArray := prog_1_method_7_code
def yX7_ask : MethodName := ⟨RX7, "ask", "(III)Z"⟩
abbrev cX7_sleep : ByteArray := prog_1_method_8_code
def yX7_sleep : MethodName := ⟨RX7, "sleep", "(II)Z"⟩
abbrev cX7_wake : ByteArray := prog_1_method_9_code
def yX7_wake : MethodName := ⟨RX7, "wake", "(I)Z"⟩
abbrev cX7_fall : ByteArray := prog_1_method_10_code
def yX7_fall : MethodName := ⟨RX7, "fall", "(I)Z"⟩
abbrev cX7_leave : ByteArray := prog_1_method_11_code
def yX7_leave : MethodName := ⟨RX7, "leave", "(I)Z"⟩
abbrev cX7_keeper : ByteArray := prog_1_method_12_code
def yX7_keeper : MethodName := ⟨RX7, "keeper", "(IZ)Z"⟩
abbrev cX7_bridge : ByteArray := prog_1_method_13_code
def yX7_bridge : MethodName := ⟨RX7, "bridge", "(III)Z"⟩
abbrev cX7_lose : ByteArray := prog_1_method_14_code
def yX7_lose : MethodName := ⟨RX7, "lose", "(II)Z"⟩
abbrev cX7_deaf : ByteArray := prog_1_method_15_code
def yX7_deaf : MethodName := ⟨RX7, "deaf", "(II)Z"⟩
abbrev cX7_join : ByteArray := prog_1_method_16_code
def yX7_join : MethodName := ⟨RX7, "join", "(II)Z"⟩
abbrev cX7_tick : ByteArray := prog_1_method_17_code
def yX7_tick : MethodName := ⟨RX7, "tick", "(I)I"⟩
abbrev cX7_find : ByteArray := prog_1_method_18_code
def yX7_find : MethodName := ⟨RX7, "find", "(IIII)I"⟩
abbrev cX7_record : ByteArray := prog_1_method_19_code
def yX7_record : MethodName := ⟨RX7, "record", "(III)I"⟩
abbrev cX7_service : ByteArray := prog_1_method_20_code
def yX7_service : MethodName := ⟨RX7, "service", "(II)I"⟩
abbrev cX7_look : ByteArray := prog_1_method_21_code
def yX7_look : MethodName := ⟨RX7, "look", "(II)I"⟩
abbrev cX7_reach : ByteArray := prog_1_method_22_code
def yX7_reach : MethodName := ⟨RX7, "reach", "(II)I"⟩
abbrev cX7_twice : ByteArray := prog_1_method_23_code
def yX7_twice : MethodName := ⟨RX7, "twice", "(I)I"⟩
abbrev cX7_count : ByteArray := prog_1_method_24_code
def yX7_count : MethodName := ⟨RX7, "count", "(I)I"⟩
abbrev cX7_isNet : ByteArray := prog_1_method_25_code
def yX7_isNet : MethodName := ⟨RX7, "isNet", "(I)Z"⟩
abbrev cX7_isKind : ByteArray := prog_1_method_26_code
def yX7_isKind : MethodName := ⟨RX7, "isKind", "(I)Z"⟩
abbrev cX7_areMarks : ByteArray := prog_1_method_27_code
def yX7_areMarks : MethodName := ⟨RX7, "areMarks", "(I)Z"⟩
abbrev cX7_hostAt : ByteArray := prog_1_method_28_code
def yX7_hostAt : MethodName := ⟨RX7, "hostAt", "(I)LWhoIsThere$Host;"⟩
abbrev cX7_stayingHost : ByteArray := prog_1_method_29_code
def yX7_stayingHost : MethodName := ⟨RX7, "stayingHost", "(I)LWhoIsThere$Host;"⟩
abbrev cX7_stayingHelper : ByteArray := prog_1_method_30_code
def yX7_stayingHelper : MethodName := ⟨RX7, "stayingHelper", "(I)LWhoIsThere$Host;"⟩
abbrev cX7_serviceAt : ByteArray := prog_1_method_31_code
def yX7_serviceAt : MethodName := ⟨RX7, "serviceAt", "(I)LWhoIsThere$Service;"⟩
abbrev cX7_serviceInCare : ByteArray := prog_1_method_32_code
def yX7_serviceInCare : MethodName := ⟨RX7, "serviceInCare", "(I)LWhoIsThere$Service;"⟩
abbrev cX7_addService : ByteArray := prog_1_method_33_code
def yX7_addService : MethodName := ⟨RX7, "addService", "(LWhoIsThere$Host;IIIIZ)I"⟩
abbrev cX7_liveServicesOf : ByteArray := prog_1_method_34_code
def yX7_liveServicesOf : MethodName := ⟨RX7, "liveServicesOf", "(LWhoIsThere$Host;)I"⟩
abbrev cX7_isNameTaken : ByteArray := prog_1_method_35_code
def yX7_isNameTaken : MethodName := ⟨RX7, "isNameTaken", "(LWhoIsThere$Host;I)Z"⟩
abbrev cX7_hasHadServices : ByteArray := prog_1_method_36_code
def yX7_hasHadServices : MethodName := ⟨RX7, "hasHadServices", "(LWhoIsThere$Host;)Z"⟩
abbrev cX7_isProxyOfASleeper : ByteArray := prog_1_method_37_code
def yX7_isProxyOfASleeper : MethodName := ⟨RX7, "isProxyOfASleeper", "(LWhoIsThere$Host;)Z"⟩
abbrev cX7_hasProxyAwake : ByteArray := prog_1_method_38_code
def yX7_hasProxyAwake : MethodName := ⟨RX7, "hasProxyAwake", "(LWhoIsThere$Host;)Z"⟩
abbrev cX7_isSpokenForOn : ByteArray := prog_1_method_39_code
def yX7_isSpokenForOn : MethodName := ⟨RX7, "isSpokenForOn", "(LWhoIsThere$Service;I)Z"⟩
abbrev cX7_isFound : ByteArray := prog_1_method_40_code
def yX7_isFound : MethodName := ⟨RX7, "isFound", "(LWhoIsThere$Store;III)Z"⟩
abbrev cX7_lotOf : ByteArray := prog_1_method_41_code
def yX7_lotOf : MethodName := ⟨RX7, "lotOf", "(LWhoIsThere$Host;)I"⟩
abbrev cX7_rouse : ByteArray := prog_1_method_42_code
def yX7_rouse : MethodName := ⟨RX7, "rouse", "(LWhoIsThere$Host;)V"⟩
abbrev cX7_speaksFor : ByteArray := prog_1_method_43_code
def yX7_speaksFor : MethodName := ⟨RX7, "speaksFor", "(LWhoIsThere$Host;LWhoIsThere$Service;)Z"⟩
abbrev cX7_isStronger : ByteArray := prog_1_method_44_code
def yX7_isStronger : MethodName := ⟨RX7, "isStronger", "(LWhoIsThere$Service;LWhoIsThere$Service;)Z"⟩
abbrev cX7_holdClaimedNames : ByteArray := prog_1_method_45_code
def yX7_holdClaimedNames : MethodName := ⟨RX7, "holdClaimedNames", "()V"⟩
abbrev cX7_writeLetters : ByteArray := prog_1_method_46_code
def yX7_writeLetters : MethodName := ⟨RX7, "writeLetters", "()V"⟩
abbrev cX7_writeAsks : ByteArray := prog_1_method_47_code
def yX7_writeAsks : MethodName := ⟨RX7, "writeAsks", "(LWhoIsThere$Host;)V"⟩
abbrev cX7_writeClaims : ByteArray := prog_1_method_48_code
def yX7_writeClaims : MethodName := ⟨RX7, "writeClaims", "(LWhoIsThere$Host;)V"⟩
abbrev cX7_writeByes : ByteArray := prog_1_method_49_code
def yX7_writeByes : MethodName := ⟨RX7, "writeByes", "(LWhoIsThere$Host;)V"⟩
abbrev cX7_writeTellings : ByteArray := prog_1_method_50_code
def yX7_writeTellings : MethodName := ⟨RX7, "writeTellings", "(LWhoIsThere$Host;)V"⟩
abbrev cX7_writeTelling : ByteArray := prog_1_method_51_code
def yX7_writeTelling : MethodName := ⟨RX7, "writeTelling", "(LWhoIsThere$Host;LWhoIsThere$Service;Z)V"⟩
abbrev cX7_writeCarried : ByteArray := prog_1_method_52_code
def yX7_writeCarried : MethodName := ⟨RX7, "writeCarried", "(LWhoIsThere$Host;LWhoIsThere$Bridge;)V"⟩
abbrev cX7_post : ByteArray := prog_1_method_53_code
def yX7_post : MethodName := ⟨RX7, "post", "(LWhoIsThere$Host;LWhoIsThere$Letter;I)V"⟩
abbrev cX7_hearLetters : ByteArray := prog_1_method_54_code
def yX7_hearLetters : MethodName := ⟨RX7, "hearLetters", "()V"⟩
abbrev cX7_sendOut : ByteArray := prog_1_method_55_code
def yX7_sendOut : MethodName := ⟨RX7, "sendOut", "(LWhoIsThere$Host;LWhoIsThere$Letter;)V"⟩
abbrev cX7_takeUp : ByteArray := prog_1_method_56_code
def yX7_takeUp : MethodName := ⟨RX7, "takeUp", "(LWhoIsThere$Host;LWhoIsThere$Bridge;LWhoIsThere$Letter;)V"⟩
abbrev cX7_hearLetter : ByteArray := prog_1_method_57_code
def yX7_hearLetter : MethodName := ⟨RX7, "hearLetter", "(LWhoIsThere$Host;LWhoIsThere$Host;LWhoIsThere$Letter;)V"⟩
abbrev cX7_hearAsk : ByteArray := prog_1_method_58_code
def yX7_hearAsk : MethodName := ⟨RX7, "hearAsk", "(LWhoIsThere$Host;LWhoIsThere$Host;LWhoIsThere$Letter;I)V"⟩
abbrev cX7_canAnswer : ByteArray := prog_1_method_59_code
def yX7_canAnswer : MethodName := ⟨RX7, "canAnswer", "(LWhoIsThere$Host;II)Z"⟩
abbrev cX7_leastKeeperOn : ByteArray := prog_1_method_60_code
def yX7_leastKeeperOn : MethodName := ⟨RX7, "leastKeeperOn", "(ILWhoIsThere$Host;)LWhoIsThere$Host;"⟩
abbrev cX7_knownTo : ByteArray := prog_1_method_61_code
def yX7_knownTo : MethodName := ⟨RX7, "knownTo", "(LWhoIsThere$Host;I)I"⟩
abbrev cX7_hearTelling : ByteArray := prog_1_method_62_code
def yX7_hearTelling : MethodName := ⟨RX7, "hearTelling", "(LWhoIsThere$Host;LWhoIsThere$Service;LWhoIsThere$Letter;)V"⟩
abbrev cX7_otherRecorded : ByteArray := prog_1_method_63_code
def yX7_otherRecorded : MethodName := ⟨RX7, "otherRecorded", "(LWhoIsThere$Store;LWhoIsThere$Service;I)LWhoIsThere$Service;"⟩
abbrev cX7_contend : ByteArray := prog_1_method_64_code
def yX7_contend : MethodName := ⟨RX7, "contend", "(LWhoIsThere$Host;LWhoIsThere$Service;IZ)V"⟩
abbrev cX7_giveWay : ByteArray := prog_1_method_65_code
def yX7_giveWay : MethodName := ⟨RX7, "giveWay", "(LWhoIsThere$Service;)V"⟩
abbrev cX7_forgetWhatEnds : ByteArray := prog_1_method_66_code
def yX7_forgetWhatEnds : MethodName := ⟨RX7, "forgetWhatEnds", "()V"⟩
abbrev cX7_isIn : ByteArray := prog_1_method_67_code
def yX7_isIn : MethodName := ⟨RX7, "isIn", "(II)Z"⟩
def RX8 : String := "WhoIsThereModel"
def TX8 : u_T := fun k => match k with
  | 0 => ("WhoIsThereModel", "home", "[I", true)
  | 1 => ("WhoIsThereModel", "second", "[I", true)
  | 2 => ("WhoIsThereModel", "low", "[I", true)
  | 3 => ("WhoIsThereModel", "high", "[I", true)
  | 4 => ("WhoIsThereModel", "rank", "[I", true)
  | 5 => ("WhoIsThereModel", "how", "[I", true)
  | 6 => ("WhoIsThereModel", "leaves", "[Z", true)
  | 7 => ("WhoIsThereModel", "isKeeper", "[Z", true)
  | 8 => ("WhoIsThereModel", "isBridge", "[Z", true)
  | 9 => ("WhoIsThereModel", "kinds", "[I", true)
  | 10 => ("WhoIsThereModel", "proxy", "[I", true)
  | 11 => ("WhoIsThereModel", "wrote", "[I", true)
  | 12 => ("WhoIsThereModel", "loses", "[I", true)
  | 13 => ("WhoIsThereModel", "deaf", "[I", true)
  | 14 => ("WhoIsThereModel", "hosts", "I", false)
  | 15 => ("WhoIsThereModel", "hostOf", "[I", true)
  | 16 => ("WhoIsThereModel", "kind", "[I", true)
  | 17 => ("WhoIsThereModel", "name", "[I", true)
  | 18 => ("WhoIsThereModel", "marks", "[I", true)
  | 19 => ("WhoIsThereModel", "life", "[I", true)
  | 20 => ("WhoIsThereModel", "is", "[I", true)
  | 21 => ("WhoIsThereModel", "claims", "[I", true)
  | 22 => ("WhoIsThereModel", "renewal", "[I", true)
  | 23 => ("WhoIsThereModel", "yielded", "[I", true)
  | 24 => ("WhoIsThereModel", "hasBye", "[Z", true)
  | 25 => ("WhoIsThereModel", "isFalse", "[Z", true)
  | 26 => ("WhoIsThereModel", "services", "I", false)
  | 27 => ("WhoIsThereModel", "hasRecord", "[Z", true)
  | 28 => ("WhoIsThereModel", "recName", "[I", true)
  | 29 => ("WhoIsThereModel", "recMarks", "[I", true)
  | 30 => ("WhoIsThereModel", "recLife", "[I", true)
  | 31 => ("WhoIsThereModel", "recEnds", "[I", true)
  | 32 => ("WhoIsThereModel", "answerAt", "[I", true)
  | 33 => ("WhoIsThereModel", "hasAsk", "[Z", true)
  | 34 => ("WhoIsThereModel", "askMarks", "[I", true)
  | 35 => ("WhoIsThereModel", "askAt", "[I", true)
  | 36 => ("WhoIsThereModel", "tick", "I", false)
  | 37 => ("WhoIsThereModel", "letters", "I", false)
  | 38 => ("WhoIsThereModel", "lost", "I", false)
  | 39 => ("WhoIsThereModel", "yields", "I", false)
  | 40 => ("WhoIsThereModel", "lies", "I", false)
  | 41 => ("WhoIsThereModel", "leftOut", "I", false)
  | 42 => ("WhoIsThereModel", "woken", "I", false)
  | 43 => ("WhoIsThereModel", "lately", "I", false)
  | 44 => ("WhoIsThereModel", "carried", "I", false)
  | 45 => ("WhoIsThereModel", "writer", "[I", true)
  | 46 => ("WhoIsThereModel", "netOf", "[I", true)
  | 47 => ("WhoIsThereModel", "written", "I", false)
  | 48 => ("WhoIsThereModel", "lAsk", "[Z", true)
  | 49 => ("WhoIsThereModel", "lAskMarks", "[I", true)
  | 50 => ("WhoIsThereModel", "lKnown", "[I", true)
  | 51 => ("WhoIsThereModel", "lAskBore", "[I", true)
  | 52 => ("WhoIsThereModel", "lClaim", "[I", true)
  | 53 => ("WhoIsThereModel", "lClaimBore", "[I", true)
  | 54 => ("WhoIsThereModel", "lBye", "[Z", true)
  | 55 => ("WhoIsThereModel", "lByeBore", "[I", true)
  | 56 => ("WhoIsThereModel", "lTold", "[I", true)
  | 57 => ("WhoIsThereModel", "lToldMarks", "[I", true)
  | 58 => ("WhoIsThereModel", "lToldLife", "[I", true)
  | _ => ("WhoIsThereModel", "lToldBore", "[I", true)
def tyX8 : Nat → FieldType := fun k => match k with
  | 0 => .array .int
  | 1 => .array .int
  | 2 => .array .int
  | 3 => .array .int
  | 4 => .array .int
  | 5 => .array .int
  | 6 => .array .boolean
  | 7 => .array .boolean
  | 8 => .array .boolean
  | 9 => .array .int
  | 10 => .array .int
  | 11 => .array .int
  | 12 => .array .int
  | 13 => .array .int
  | 14 => .int
  | 15 => .array .int
  | 16 => .array .int
  | 17 => .array .int
  | 18 => .array .int
  | 19 => .array .int
  | 20 => .array .int
  | 21 => .array .int
  | 22 => .array .int
  | 23 => .array .int
  | 24 => .array .boolean
  | 25 => .array .boolean
  | 26 => .int
  | 27 => .array .boolean
  | 28 => .array .int
  | 29 => .array .int
  | 30 => .array .int
  | 31 => .array .int
  | 32 => .array .int
  | 33 => .array .boolean
  | 34 => .array .int
  | 35 => .array .int
  | 36 => .int
  | 37 => .int
  | 38 => .int
  | 39 => .int
  | 40 => .int
  | 41 => .int
  | 42 => .int
  | 43 => .int
  | 44 => .int
  | 45 => .array .int
  | 46 => .array .int
  | 47 => .int
  | 48 => .array .boolean
  | 49 => .array .int
  | 50 => .array .int
  | 51 => .array .int
  | 52 => .array .int
  | 53 => .array .int
  | 54 => .array .boolean
  | 55 => .array .int
  | 56 => .array .int
  | 57 => .array .int
  | 58 => .array .int
  | _ => .array .int
theorem nmX8 : ∀ a, a < 60 → ∀ b, b < 60 → a ≠ b → (TX8 a).2.1 ≠ (TX8 b).2.1 := by decide +kernel
theorem tyX8_ok : ∀ k, k < 60 → parseFieldDescriptor (TX8 k).2.2.1 = some (tyX8 k) := by decide +kernel
abbrev cX8_init : ByteArray := prog_10_method_1_code
def yX8_init : MethodName := ⟨RX8, "<init>", "()V"⟩
abbrev cX8_in : ByteArray := prog_10_method_2_code
def yX8_in : MethodName := ⟨RX8, "in", "(III)Z"⟩
abbrev cX8_isHost : ByteArray := prog_10_method_3_code
def yX8_isHost : MethodName := ⟨RX8, "isHost", "(I)Z"⟩
abbrev cX8_isAwake : ByteArray := prog_10_method_4_code
def yX8_isAwake : MethodName := ⟨RX8, "isAwake", "(I)Z"⟩
abbrev cX8_isUp : ByteArray := prog_10_method_5_code
def yX8_isUp : MethodName := ⟨RX8, "isUp", "(I)Z"⟩
abbrev cX8_isService : ByteArray := prog_10_method_6_code
def yX8_isService : MethodName := ⟨RX8, "isService", "(I)Z"⟩
abbrev cX8_host : ByteArray := prog_10_method_7_code
def yX8_host : MethodName := ⟨RX8, "host", "(IIII)I"⟩
abbrev cX8_many : ByteArray := prog_10_method_8_code
def yX8_many : MethodName := ⟨RX8, "many", "(I)I"⟩
abbrev cX8_isNamed : ByteArray := prog_10_method_9_code
def yX8_isNamed : MethodName := ⟨RX8, "isNamed", "(III)Z"⟩
abbrev cX8_mayOffer : ByteArray := prog_10_method_10_code
def yX8_mayOffer : MethodName := ⟨RX8, "mayOffer", "(IIII)Z"⟩
abbrev cX8_comes : ByteArray := prog_10_method_11_code
def yX8_comes : MethodName := ⟨RX8, "comes", "(IIIII)I"⟩
abbrev cX8_offer : ByteArray := prog_10_method_12_code
def yX8_offer : MethodName := ⟨RX8, "offer", "(IIIII)I"⟩
abbrev cX8_lie : ByteArray := prog_10_method_13_code
def yX8_lie : MethodName := ⟨RX8, "lie", "(IIIII)I"⟩
abbrev cX8_goes : ByteArray := prog_10_method_14_code
def yX8_goes : MethodName := ⟨RX8, "goes", "(IZ)V"⟩
abbrev cX8_isOpen : ByteArray := prog_10_method_15_code
def yX8_isOpen : MethodName := ⟨RX8, "isOpen", "(I)Z"⟩
abbrev cX8_drop : ByteArray := prog_10_method_16_code
def yX8_drop : MethodName := ⟨RX8, "drop", "(I)Z"⟩
abbrev cX8_change : ByteArray := prog_10_method_17_code
def yX8_change : MethodName := ⟨RX8, "change", "(II)Z"⟩
abbrev cX8_lot : ByteArray := prog_10_method_18_code
def yX8_lot : MethodName := ⟨RX8, "lot", "(II)I"⟩
abbrev cX8_ask : ByteArray := prog_10_method_19_code
def yX8_ask : MethodName := ⟨RX8, "ask", "(III)Z"⟩
abbrev cX8_sleep : ByteArray := prog_10_method_20_code
def yX8_sleep : MethodName := ⟨RX8, "sleep", "(II)Z"⟩
abbrev cX8_wakes : ByteArray := prog_10_method_21_code
def yX8_wakes : MethodName := ⟨RX8, "wakes", "(I)V"⟩
abbrev cX8_wake : ByteArray := prog_10_method_22_code
def yX8_wake : MethodName := ⟨RX8, "wake", "(I)Z"⟩
abbrev cX8_empties : ByteArray := prog_10_method_23_code
def yX8_empties : MethodName := ⟨RX8, "empties", "(I)V"⟩
abbrev cX8_isGone : ByteArray := prog_10_method_24_code
def yX8_isGone : MethodName := ⟨RX8, "isGone", "(I)V"⟩
abbrev cX8_fall : ByteArray := prog_10_method_25_code
def yX8_fall : MethodName := ⟨RX8, "fall", "(I)Z"⟩
abbrev cX8_leave : ByteArray := prog_10_method_26_code
def yX8_leave : MethodName := ⟨RX8, "leave", "(I)Z"⟩
abbrev cX8_keeper : ByteArray := prog_10_method_27_code
def yX8_keeper : MethodName := ⟨RX8, "keeper", "(IZ)Z"⟩
abbrev cX8_bridge : ByteArray := prog_10_method_28_code
def yX8_bridge : MethodName := ⟨RX8, "bridge", "(III)Z"⟩
abbrev cX8_lose : ByteArray := prog_10_method_29_code
def yX8_lose : MethodName := ⟨RX8, "lose", "(II)Z"⟩
abbrev cX8_deaf : ByteArray := prog_10_method_30_code
def yX8_deaf : MethodName := ⟨RX8, "deaf", "(II)Z"⟩
abbrev cX8_join : ByteArray := prog_10_method_31_code
def yX8_join : MethodName := ⟨RX8, "join", "(II)Z"⟩
abbrev cX8_clears : ByteArray := prog_10_method_32_code
def yX8_clears : MethodName := ⟨RX8, "clears", "(I)V"⟩
abbrev cX8_isBare : ByteArray := prog_10_method_33_code
def yX8_isBare : MethodName := ⟨RX8, "isBare", "(I)Z"⟩
abbrev cX8_writes : ByteArray := prog_10_method_34_code
def yX8_writes : MethodName := ⟨RX8, "writes", "(II)V"⟩
abbrev cX8_speaksFor : ByteArray := prog_10_method_35_code
def yX8_speaksFor : MethodName := ⟨RX8, "speaksFor", "(II)Z"⟩
abbrev cX8_isStronger : ByteArray := prog_10_method_36_code
def yX8_isStronger : MethodName := ⟨RX8, "isStronger", "(II)Z"⟩
abbrev cX8_knownTo : ByteArray := prog_10_method_37_code
def yX8_knownTo : MethodName := ⟨RX8, "knownTo", "(III)I"⟩
abbrev cX8_isDue : ByteArray := prog_10_method_38_code
def yX8_isDue : MethodName := ⟨RX8, "isDue", "(III)V"⟩
abbrev cX8_yieldsName : ByteArray := prog_10_method_39_code
def yX8_yieldsName : MethodName := ⟨RX8, "yieldsName", "(I)V"⟩
abbrev cX8_tick : ByteArray := prog_10_method_40_code
def yX8_tick : MethodName := ⟨RX8, "tick", "(I)I"⟩
abbrev cX8_oneTick : ByteArray := prog_10_method_41_code
def yX8_oneTick : MethodName := ⟨RX8, "oneTick", "(I)V"⟩
abbrev cX8_writesAll : ByteArray := prog_10_method_42_code
def yX8_writesAll : MethodName := ⟨RX8, "writesAll", "(II)V"⟩
abbrev cX8_asks : ByteArray := prog_10_method_43_code
def yX8_asks : MethodName := ⟨RX8, "asks", "(II)V"⟩
abbrev cX8_byes : ByteArray := prog_10_method_44_code
def yX8_byes : MethodName := ⟨RX8, "byes", "(I)V"⟩
abbrev cX8_tells : ByteArray := prog_10_method_45_code
def yX8_tells : MethodName := ⟨RX8, "tells", "(II)V"⟩
abbrev cX8_takesUp : ByteArray := prog_10_method_46_code
def yX8_takesUp : MethodName := ⟨RX8, "takesUp", "(III)V"⟩
abbrev cX8_isHeard : ByteArray := prog_10_method_47_code
def yX8_isHeard : MethodName := ⟨RX8, "isHeard", "(II)V"⟩
abbrev cX8_isCarried : ByteArray := prog_10_method_48_code
def yX8_isCarried : MethodName := ⟨RX8, "isCarried", "(IIII)Z"⟩
abbrev cX8_carries : ByteArray := prog_10_method_49_code
def yX8_carries : MethodName := ⟨RX8, "carries", "(II)V"⟩
abbrev cX8_hears : ByteArray := prog_10_method_50_code
def yX8_hears : MethodName := ⟨RX8, "hears", "(III)V"⟩
abbrev cX8_keeperOn : ByteArray := prog_10_method_51_code
def yX8_keeperOn : MethodName := ⟨RX8, "keeperOn", "(II)I"⟩
abbrev cX8_hearsAsk : ByteArray := prog_10_method_52_code
def yX8_hearsAsk : MethodName := ⟨RX8, "hearsAsk", "(IIII)V"⟩
abbrev cX8_hearsClaim : ByteArray := prog_10_method_53_code
def yX8_hearsClaim : MethodName := ⟨RX8, "hearsClaim", "(IIII)V"⟩
abbrev cX8_hearsTelling : ByteArray := prog_10_method_54_code
def yX8_hearsTelling : MethodName := ⟨RX8, "hearsTelling", "(IIII)V"⟩
abbrev cX8_find : ByteArray := prog_10_method_55_code
def yX8_find : MethodName := ⟨RX8, "find", "(IIII)I"⟩
abbrev cX8_record : ByteArray := prog_10_method_56_code
def yX8_record : MethodName := ⟨RX8, "record", "(III)I"⟩
abbrev cX8_service : ByteArray := prog_10_method_57_code
def yX8_service : MethodName := ⟨RX8, "service", "(II)I"⟩
abbrev cX8_look : ByteArray := prog_10_method_58_code
def yX8_look : MethodName := ⟨RX8, "look", "(II)I"⟩
abbrev cX8_reach : ByteArray := prog_10_method_59_code
def yX8_reach : MethodName := ⟨RX8, "reach", "(II)I"⟩
abbrev cX8_isSpoken : ByteArray := prog_10_method_60_code
def yX8_isSpoken : MethodName := ⟨RX8, "isSpoken", "(II)Z"⟩
abbrev cX8_twice : ByteArray := prog_10_method_61_code
def yX8_twice : MethodName := ⟨RX8, "twice", "(I)I"⟩
abbrev cX8_count : ByteArray := prog_10_method_62_code
def yX8_count : MethodName := ⟨RX8, "count", "(I)I"⟩
def RJ6 : String := "java/lang/Integer"
abbrev cJ6_bitCount_0f7a4 : ByteArray := prog_11_method_49_code
def yJ6_bitCount_0f7a4 : MethodName := ⟨RJ6, "bitCount", "(I)I"⟩
def RL : String := "WhoIsThereLaw"
def xa_G : List Cond := lw_tbl.filter goodWord
theorem xa_g (n : Nat) {w : Cond} (h : tables_1[n]? = some w) (hg : goodWord w = true) : w ∈ xa_G :=
  List.mem_filter.mpr ⟨List.mem_append_right _ (List.mem_of_getElem? h), hg⟩
theorem xa_gs (n : Nat) {w : Cond} (h : (k2_sels lw_privs)[n]? = some w) (hg : goodWord w = true) : w ∈ xa_G :=
  List.mem_filter.mpr ⟨List.mem_append_left _ (List.mem_of_getElem? h), hg⟩
theorem xa_gl (ws : List Cond) (ps : List Nat) (hp : ws = ps.filterMap (fun i => tables_1[i]?)) (h : ws.all goodWord = true) : ∀ w ∈ ws, w ∈ xa_G := by
  intro w hw
  have h1 := List.all_eq_true.mp h w hw
  rw [hp] at hw
  obtain ⟨i, -, hi⟩ := List.mem_filterMap.mp hw
  exact xa_g i hi h1
theorem xa_good {w : Cond} (h : w ∈ xa_G) : (w.onTables && w.keeps) = true ∨ ∃ ty, w = .arrayClass ty := good_of_word (List.mem_filter.mp h).2
set_option maxRecDepth 20000 in
theorem inX0 : ∀ w ∈ u_ws RX0 TX0 2, w ∈ xa_G := xa_gl _ [126, 128] (by decide +kernel) (by decide +kernel)
set_option maxRecDepth 20000 in
theorem inX1 : ∀ w ∈ u_ws RX1 TX1 3, w ∈ xa_G := xa_gl _ [111, 113, 115] (by decide +kernel) (by decide +kernel)
set_option maxRecDepth 20000 in
theorem inX2 : ∀ w ∈ u_ws RX2 TX2 5, w ∈ xa_G := xa_gl _ [472, 474, 476, 478, 480] (by decide +kernel) (by decide +kernel)
set_option maxRecDepth 20000 in
theorem inX3 : ∀ w ∈ u_ws RX3 TX3 16, w ∈ xa_G := xa_gl _ [222, 224, 226, 228, 230, 232, 234, 236, 238, 240, 242, 244, 246, 248, 250, 252] (by decide +kernel) (by decide +kernel)
set_option maxRecDepth 20000 in
theorem inX4 : ∀ w ∈ u_ws RX4 TX4 15, w ∈ xa_G := xa_gl _ [163, 165, 167, 169, 171, 173, 175, 177, 179, 181, 183, 185, 187, 189, 191] (by decide +kernel) (by decide +kernel)
set_option maxRecDepth 20000 in
theorem inX5 : ∀ w ∈ u_ws RX5 TX5 12, w ∈ xa_G := xa_gl _ [322, 324, 326, 328, 330, 332, 334, 336, 338, 340, 342, 344] (by decide +kernel) (by decide +kernel)
set_option maxRecDepth 20000 in
theorem inX6 : ∀ w ∈ u_ws RX6 TX6 5, w ∈ xa_G := xa_gl _ [89, 91, 93, 95, 97] (by decide +kernel) (by decide +kernel)
set_option maxRecDepth 20000 in
theorem inX7 : ∀ w ∈ u_ws RX7 TX7 13, w ∈ xa_G := xa_gl _ [36, 38, 40, 42, 44, 46, 48, 50, 52, 54, 56, 58, 60] (by decide +kernel) (by decide +kernel)
set_option maxRecDepth 20000 in
theorem inX8 : ∀ w ∈ u_ws RX8 TX8 60, w ∈ xa_G := xa_gl _ [865, 867, 869, 871, 873, 875, 877, 879, 881, 883, 885, 887, 889, 891, 893, 895, 897, 899, 901, 903, 905, 907, 909, 911, 913, 915, 917, 919, 921, 923, 925, 927, 929, 931, 933, 935, 937, 939, 941, 943, 945, 947, 949, 951, 953, 955, 957, 959, 961, 963, 965, 967, 969, 971, 973, 975, 977, 979, 981, 983] (by decide +kernel) (by decide +kernel)
abbrev xa_cl : List vw_C := [(RX0, TX0, 2), (RX1, TX1, 3), (RX2, TX2, 5), (RX3, TX3, 16), (RX4, TX4, 15), (RX5, TX5, 12), (RX6, TX6, 5), (RX7, TX7, 13), (RX8, TX8, 60)]
def xa_nT : List Nat := [2, 3, 5, 16, 15, 12, 5, 13, 60]
def xa_rT : List (List Bool) := [[true, false], [true, true, false], [false, false, true, true, true], [false, false, false, false, true, true, true, false, false, false, true, true, false, false, false, true], [false, false, true, true, true, false, true, true, false, true, false, true, true, true, true], [false, true, false, false, false, false, false, false, false, false, false, false], [true, true, true, true, false], [true, true, false, false, false, false, false, false, false, false, false, false, false], [true, true, true, true, true, true, true, true, true, true, true, true, true, true, false, true, true, true, true, true, true, true, true, true, true, true, false, true, true, true, true, true, true, true, true, true, false, false, false, false, false, false, false, false, false, true, true, false, true, true, true, true, true, true, true, true, true, true, true, true]]
def xa_kT : List Nat := [3, 6, 9, 9, 9, 9, 1, 9, 9, 0, 9, 99, 99, 99, 99, 99, 4, 99, 99, 9, 9, 9, 99, 9, 9, 99, 9, 99, 9, 9, 9, 9, 4, 99, 99, 9, 9, 9, 99, 9, 9, 99, 9, 99, 9, 9, 9, 9, 4, 99, 99, 9, 9, 9, 99, 9, 9, 99, 9, 99, 9, 9, 9, 9, 4, 99, 99, 9, 9, 9, 99, 9, 9, 99, 9, 99, 9, 9, 9, 9, 2, 99, 99, 99, 99, 99, 99, 99, 99, 99, 99, 99, 99, 99, 99, 99, 99, 99, 99, 99, 99, 99, 99, 99, 99, 99, 99, 99, 99, 99, 99, 99, 99, 99, 99, 99, 99, 99, 99, 99, 99, 99, 99, 99, 99, 99, 11, 12, 5, 7, 8, 9, 9, 9, 9, 9, 9, 10, 10, 10, 9, 9, 9, 9, 9, 99, 9, 9, 9, 9, 9, 9, 9, 9, 9, 10, 10, 99, 10, 9, 9, 9, 9, 9, 10, 9, 9, 99, 99, 99, 99, 99, 99, 99, 99, 99, 9, 9, 99, 10, 9, 9, 9, 9, 9, 10, 9, 9, 9, 9, 9, 99]
def xa_lT : List Nat := [0, 0, 32, 32, 32, 32, 0, 16, 16, 0, 32, 0, 0, 0, 0, 0, 0, 0, 0, 16, 16, 16, 0, 32, 32, 0, 32, 0, 32, 32, 32, 32, 0, 0, 0, 16, 16, 16, 0, 32, 32, 0, 32, 0, 32, 32, 32, 32, 0, 0, 0, 16, 16, 16, 0, 32, 32, 0, 32, 0, 32, 32, 32, 32, 0, 0, 0, 16, 16, 16, 0, 32, 32, 0, 32, 0, 32, 32, 32, 32, 0, 0, 0, 0, 0, 0, 0, 0, 0, 0, 0, 0, 0, 0, 0, 0, 0, 0, 0, 0, 0, 0, 0, 0, 0, 0, 0, 0, 0, 0, 0, 0, 0, 0, 0, 0, 0, 0, 0, 0, 0, 0, 0, 0, 0, 0, 12, 32, 0, 0, 0, 12, 12, 12, 12, 12, 12, 12, 12, 12, 12, 12, 12, 12, 12, 0, 32, 32, 32, 32, 32, 32, 32, 32, 32, 32, 32, 0, 384, 384, 384, 384, 384, 384, 192, 192, 192, 0, 0, 0, 0, 0, 0, 0, 0, 0, 24, 24, 0, 768, 768, 768, 768, 1536, 1536, 1536, 1536, 1536, 1536, 1536, 1536, 0]
abbrev xa_MC : Type := MethodName × ByteArray × Nat × Option FieldType × Room
def mX7_init : xa_MC := (yX7_init, cX7_init, 1, none, { frames := 1, cells := 2, slots := 44, locals := 20 })
def mX7_host : xa_MC := (yX7_host, cX7_host, 7, (some .int), { frames := 3, cells := 22, slots := 505, locals := 65 })
def mX7_isNet : xa_MC := (yX7_isNet, cX7_isNet, 1, (some .boolean), { frames := 0, cells := 0, slots := 0, locals := 0 })
def mX3_init : xa_MC := (yX3_init, cX3_init, 6, none, { frames := 2, cells := 21, slots := 489, locals := 40 })
def mX6_init : xa_MC := (yX6_init, cX6_init, 1, none, { frames := 1, cells := 4, slots := 128, locals := 20 })
def mX1_init : xa_MC := (yX1_init, cX1_init, 1, none, { frames := 1, cells := 2, slots := 32, locals := 20 })
def mX0_init : xa_MC := (yX0_init, cX0_init, 1, none, { frames := 1, cells := 1, slots := 32, locals := 20 })
def mX4_init : xa_MC := (yX4_init, cX4_init, 1, none, { frames := 1, cells := 10, slots := 272, locals := 20 })
def mX7_offer : xa_MC := (yX7_offer, cX7_offer, 7, (some .int), { frames := 3, cells := 1, slots := 12, locals := 75 })
def mX7_stayingHelper : xa_MC := (yX7_stayingHelper, cX7_stayingHelper, 3, (some (.object "WhoIsThere$Host")), { frames := 2, cells := 0, slots := 0, locals := 43 })
def mX7_stayingHost : xa_MC := (yX7_stayingHost, cX7_stayingHost, 3, (some (.object "WhoIsThere$Host")), { frames := 1, cells := 0, slots := 0, locals := 21 })
def mX7_hostAt : xa_MC := (yX7_hostAt, cX7_hostAt, 2, (some (.object "WhoIsThere$Host")), { frames := 0, cells := 0, slots := 0, locals := 0 })
def mX3_hasForName : xa_MC := (yX3_hasForName, cX3_hasForName, 2, (some .boolean), { frames := 0, cells := 0, slots := 0, locals := 0 })
def mX7_addService : xa_MC := (yX7_addService, cX7_addService, 9, (some .int), { frames := 2, cells := 1, slots := 12, locals := 47 })
def mX7_isKind : xa_MC := (yX7_isKind, cX7_isKind, 1, (some .boolean), { frames := 0, cells := 0, slots := 0, locals := 0 })
def mX7_areMarks : xa_MC := (yX7_areMarks, cX7_areMarks, 1, (some .boolean), { frames := 0, cells := 0, slots := 0, locals := 0 })
def mX7_liveServicesOf : xa_MC := (yX7_liveServicesOf, cX7_liveServicesOf, 4, (some .int), { frames := 0, cells := 0, slots := 0, locals := 0 })
def mX7_isNameTaken : xa_MC := (yX7_isNameTaken, cX7_isNameTaken, 5, (some .boolean), { frames := 0, cells := 0, slots := 0, locals := 0 })
def mX5_init : xa_MC := (yX5_init, cX5_init, 8, none, { frames := 1, cells := 0, slots := 0, locals := 20 })
def mX5_hold : xa_MC := (yX5_hold, cX5_hold, 2, none, { frames := 0, cells := 0, slots := 0, locals := 0 })
def mX7_lie : xa_MC := (yX7_lie, cX7_lie, 7, (some .int), { frames := 3, cells := 1, slots := 12, locals := 75 })
def mX7_drop : xa_MC := (yX7_drop, cX7_drop, 3, (some .boolean), { frames := 2, cells := 0, slots := 0, locals := 43 })
def mX7_serviceInCare : xa_MC := (yX7_serviceInCare, cX7_serviceInCare, 3, (some (.object "WhoIsThere$Service")), { frames := 1, cells := 0, slots := 0, locals := 21 })
def mX7_serviceAt : xa_MC := (yX7_serviceAt, cX7_serviceAt, 2, (some (.object "WhoIsThere$Service")), { frames := 0, cells := 0, slots := 0, locals := 0 })
def mX5_end : xa_MC := (yX5_end, cX5_end, 1, none, { frames := 0, cells := 0, slots := 0, locals := 0 })
def mX7_change : xa_MC := (yX7_change, cX7_change, 4, (some .boolean), { frames := 2, cells := 0, slots := 0, locals := 43 })
def mX7_ask : xa_MC := (yX7_ask, cX7_ask, 5, (some .boolean), { frames := 3, cells := 0, slots := 0, locals := 65 })
def mX1_has : xa_MC := (yX1_has, cX1_has, 2, (some .boolean), { frames := 1, cells := 0, slots := 0, locals := 21 })
def mX7_isIn : xa_MC := (yX7_isIn, cX7_isIn, 2, (some .boolean), { frames := 0, cells := 0, slots := 0, locals := 0 })
def mX7_lotOf : xa_MC := (yX7_lotOf, cX7_lotOf, 2, (some .int), { frames := 0, cells := 0, slots := 0, locals := 0 })
def mX1_put : xa_MC := (yX1_put, cX1_put, 4, none, { frames := 0, cells := 0, slots := 0, locals := 0 })
def mX7_sleep : xa_MC := (yX7_sleep, cX7_sleep, 5, (some .boolean), { frames := 3, cells := 0, slots := 0, locals := 65 })
def mX7_wake : xa_MC := (yX7_wake, cX7_wake, 3, (some .boolean), { frames := 1, cells := 0, slots := 0, locals := 21 })
def mX7_fall : xa_MC := (yX7_fall, cX7_fall, 4, (some .boolean), { frames := 2, cells := 0, slots := 0, locals := 40 })
def mX3_goAway : xa_MC := (yX3_goAway, cX3_goAway, 1, none, { frames := 1, cells := 0, slots := 0, locals := 20 })
def mX6_clear : xa_MC := (yX6_clear, cX6_clear, 1, none, { frames := 0, cells := 0, slots := 0, locals := 0 })
def mX1_clear : xa_MC := (yX1_clear, cX1_clear, 1, none, { frames := 0, cells := 0, slots := 0, locals := 0 })
def mX0_clear : xa_MC := (yX0_clear, cX0_clear, 1, none, { frames := 0, cells := 0, slots := 0, locals := 0 })
def mX7_leave : xa_MC := (yX7_leave, cX7_leave, 4, (some .boolean), { frames := 2, cells := 0, slots := 0, locals := 43 })
def mX7_rouse : xa_MC := (yX7_rouse, cX7_rouse, 2, none, { frames := 0, cells := 0, slots := 0, locals := 0 })
def mX7_keeper : xa_MC := (yX7_keeper, cX7_keeper, 4, (some .boolean), { frames := 3, cells := 0, slots := 0, locals := 65 })
def mX7_bridge : xa_MC := (yX7_bridge, cX7_bridge, 5, (some .boolean), { frames := 3, cells := 34, slots := 866, locals := 65 })
def mX1_isEmpty : xa_MC := (yX1_isEmpty, cX1_isEmpty, 1, (some .boolean), { frames := 0, cells := 0, slots := 0, locals := 0 })
def mX7_hasHadServices : xa_MC := (yX7_hasHadServices, cX7_hasHadServices, 3, (some .boolean), { frames := 0, cells := 0, slots := 0, locals := 0 })
def mX7_isProxyOfASleeper : xa_MC := (yX7_isProxyOfASleeper, cX7_isProxyOfASleeper, 3, (some .boolean), { frames := 0, cells := 0, slots := 0, locals := 0 })
def mX2_init : xa_MC := (yX2_init, cX2_init, 3, none, { frames := 2, cells := 33, slots := 861, locals := 40 })
def mX7_lose : xa_MC := (yX7_lose, cX7_lose, 4, (some .boolean), { frames := 1, cells := 0, slots := 0, locals := 21 })
def mX7_deaf : xa_MC := (yX7_deaf, cX7_deaf, 4, (some .boolean), { frames := 1, cells := 0, slots := 0, locals := 21 })
def mX7_join : xa_MC := (yX7_join, cX7_join, 4, (some .boolean), { frames := 1, cells := 0, slots := 0, locals := 22 })
def mX3_move : xa_MC := (yX3_move, cX3_move, 3, none, { frames := 0, cells := 0, slots := 0, locals := 0 })
def mX7_tick : xa_MC := (yX7_tick, cX7_tick, 3, (some .int), { frames := 7, cells := 0, slots := 0, locals := 174 })
def mX7_holdClaimedNames : xa_MC := (yX7_holdClaimedNames, cX7_holdClaimedNames, 3, none, { frames := 1, cells := 0, slots := 0, locals := 21 })
def mX7_writeLetters : xa_MC := (yX7_writeLetters, cX7_writeLetters, 3, none, { frames := 4, cells := 0, slots := 0, locals := 91 })
def mX3_clearLetters : xa_MC := (yX3_clearLetters, cX3_clearLetters, 1, none, { frames := 1, cells := 0, slots := 0, locals := 20 })
def mX4_clear : xa_MC := (yX4_clear, cX4_clear, 1, none, { frames := 0, cells := 0, slots := 0, locals := 0 })
def mX7_writeByes : xa_MC := (yX7_writeByes, cX7_writeByes, 4, none, { frames := 1, cells := 0, slots := 0, locals := 22 })
def mX4_addBye : xa_MC := (yX4_addBye, cX4_addBye, 3, none, { frames := 0, cells := 0, slots := 0, locals := 0 })
def mX7_post : xa_MC := (yX7_post, cX7_post, 4, none, { frames := 1, cells := 0, slots := 0, locals := 20 })
def mX4_isEmpty : xa_MC := (yX4_isEmpty, cX4_isEmpty, 1, (some .boolean), { frames := 0, cells := 0, slots := 0, locals := 0 })
def mX7_writeCarried : xa_MC := (yX7_writeCarried, cX7_writeCarried, 4, none, { frames := 2, cells := 0, slots := 0, locals := 43 })
def mX7_writeAsks : xa_MC := (yX7_writeAsks, cX7_writeAsks, 3, none, { frames := 3, cells := 0, slots := 0, locals := 67 })
def mX1_isDue : xa_MC := (yX1_isDue, cX1_isDue, 3, (some .boolean), { frames := 2, cells := 0, slots := 0, locals := 42 })
def mX7_knownTo : xa_MC := (yX7_knownTo, cX7_knownTo, 5, (some .int), { frames := 2, cells := 0, slots := 0, locals := 43 })
def mX6_isFresh : xa_MC := (yX6_isFresh, cX6_isFresh, 3, (some .boolean), { frames := 1, cells := 0, slots := 0, locals := 21 })
def mX4_addAsk : xa_MC := (yX4_addAsk, cX4_addAsk, 5, none, { frames := 0, cells := 0, slots := 0, locals := 0 })
def mX1_remove : xa_MC := (yX1_remove, cX1_remove, 2, none, { frames := 0, cells := 0, slots := 0, locals := 0 })
def mX7_writeClaims : xa_MC := (yX7_writeClaims, cX7_writeClaims, 4, none, { frames := 1, cells := 0, slots := 0, locals := 23 })
def mX4_addClaim : xa_MC := (yX4_addClaim, cX4_addClaim, 4, none, { frames := 0, cells := 0, slots := 0, locals := 0 })
def mX7_writeTellings : xa_MC := (yX7_writeTellings, cX7_writeTellings, 5, none, { frames := 3, cells := 0, slots := 0, locals := 67 })
def mX0_isDue : xa_MC := (yX0_isDue, cX0_isDue, 3, (some .boolean), { frames := 1, cells := 0, slots := 0, locals := 21 })
def mX7_writeTelling : xa_MC := (yX7_writeTelling, cX7_writeTelling, 6, none, { frames := 2, cells := 0, slots := 0, locals := 42 })
def mX7_speaksFor : xa_MC := (yX7_speaksFor, cX7_speaksFor, 3, (some .boolean), { frames := 0, cells := 0, slots := 0, locals := 0 })
def mX4_addTelling : xa_MC := (yX4_addTelling, cX4_addTelling, 6, none, { frames := 0, cells := 0, slots := 0, locals := 0 })
def mX6_has : xa_MC := (yX6_has, cX6_has, 2, (some .boolean), { frames := 1, cells := 0, slots := 0, locals := 21 })
def mX6_left : xa_MC := (yX6_left, cX6_left, 3, (some .int), { frames := 0, cells := 0, slots := 0, locals := 0 })
def mX0_remove : xa_MC := (yX0_remove, cX0_remove, 2, none, { frames := 0, cells := 0, slots := 0, locals := 0 })
def mX7_hearLetters : xa_MC := (yX7_hearLetters, cX7_hearLetters, 3, none, { frames := 6, cells := 0, slots := 0, locals := 152 })
def mX7_sendOut : xa_MC := (yX7_sendOut, cX7_sendOut, 5, none, { frames := 5, cells := 0, slots := 0, locals := 128 })
def mX3_isOn : xa_MC := (yX3_isOn, cX3_isOn, 2, (some .boolean), { frames := 0, cells := 0, slots := 0, locals := 0 })
def mX7_takeUp : xa_MC := (yX7_takeUp, cX7_takeUp, 10, none, { frames := 3, cells := 0, slots := 0, locals := 67 })
def mX4_size : xa_MC := (yX4_size, cX4_size, 1, (some .int), { frames := 1, cells := 0, slots := 0, locals := 20 })
def mJ6_bitCount_0f7a4 : xa_MC := (yJ6_bitCount_0f7a4, cJ6_bitCount_0f7a4, 1, (some .int), { frames := 0, cells := 0, slots := 0, locals := 0 })
def mX2_carries : xa_MC := (yX2_carries, cX2_carries, 2, (some .boolean), { frames := 1, cells := 0, slots := 0, locals := 21 })
def mX4_takeAsk : xa_MC := (yX4_takeAsk, cX4_takeAsk, 5, none, { frames := 2, cells := 0, slots := 0, locals := 42 })
def mX4_hasAsk : xa_MC := (yX4_hasAsk, cX4_hasAsk, 2, (some .boolean), { frames := 1, cells := 0, slots := 0, locals := 21 })
def mX4_takeClaim : xa_MC := (yX4_takeClaim, cX4_takeClaim, 5, none, { frames := 2, cells := 0, slots := 0, locals := 42 })
def mX4_hasClaim : xa_MC := (yX4_hasClaim, cX4_hasClaim, 2, (some .boolean), { frames := 1, cells := 0, slots := 0, locals := 21 })
def mX4_takeBye : xa_MC := (yX4_takeBye, cX4_takeBye, 5, none, { frames := 2, cells := 0, slots := 0, locals := 42 })
def mX4_hasBye : xa_MC := (yX4_hasBye, cX4_hasBye, 2, (some .boolean), { frames := 1, cells := 0, slots := 0, locals := 21 })
def mX4_takeTelling : xa_MC := (yX4_takeTelling, cX4_takeTelling, 6, none, { frames := 2, cells := 0, slots := 0, locals := 42 })
def mX4_hasTelling : xa_MC := (yX4_hasTelling, cX4_hasTelling, 2, (some .boolean), { frames := 1, cells := 0, slots := 0, locals := 21 })
def mX7_hearLetter : xa_MC := (yX7_hearLetter, cX7_hearLetter, 5, none, { frames := 4, cells := 0, slots := 0, locals := 104 })
def mX7_hearAsk : xa_MC := (yX7_hearAsk, cX7_hearAsk, 11, none, { frames := 3, cells := 0, slots := 0, locals := 67 })
def mX7_leastKeeperOn : xa_MC := (yX7_leastKeeperOn, cX7_leastKeeperOn, 5, (some (.object "WhoIsThere$Host")), { frames := 0, cells := 0, slots := 0, locals := 0 })
def mX7_canAnswer : xa_MC := (yX7_canAnswer, cX7_canAnswer, 5, (some .boolean), { frames := 2, cells := 0, slots := 0, locals := 42 })
def mX0_comeDue : xa_MC := (yX0_comeDue, cX0_comeDue, 3, none, { frames := 1, cells := 0, slots := 0, locals := 21 })
def mX7_contend : xa_MC := (yX7_contend, cX7_contend, 9, none, { frames := 2, cells := 0, slots := 0, locals := 49 })
def mX7_isStronger : xa_MC := (yX7_isStronger, cX7_isStronger, 3, (some .boolean), { frames := 0, cells := 0, slots := 0, locals := 0 })
def mX7_giveWay : xa_MC := (yX7_giveWay, cX7_giveWay, 6, none, { frames := 1, cells := 0, slots := 0, locals := 24 })
def mX5_claimAnew : xa_MC := (yX5_claimAnew, cX5_claimAnew, 2, none, { frames := 0, cells := 0, slots := 0, locals := 0 })
def mX6_removeAll : xa_MC := (yX6_removeAll, cX6_removeAll, 2, none, { frames := 0, cells := 0, slots := 0, locals := 0 })
def mX7_hearTelling : xa_MC := (yX7_hearTelling, cX7_hearTelling, 8, none, { frames := 3, cells := 0, slots := 0, locals := 77 })
def mX7_otherRecorded : xa_MC := (yX7_otherRecorded, cX7_otherRecorded, 5, (some (.object "WhoIsThere$Service")), { frames := 2, cells := 0, slots := 0, locals := 42 })
def mX6_remove : xa_MC := (yX6_remove, cX6_remove, 2, none, { frames := 0, cells := 0, slots := 0, locals := 0 })
def mX6_put : xa_MC := (yX6_put, cX6_put, 6, none, { frames := 0, cells := 0, slots := 0, locals := 0 })
def mX7_forgetWhatEnds : xa_MC := (yX7_forgetWhatEnds, cX7_forgetWhatEnds, 2, none, { frames := 3, cells := 0, slots := 0, locals := 64 })
def mX6_removeEnding : xa_MC := (yX6_removeEnding, cX6_removeEnding, 3, none, { frames := 2, cells := 0, slots := 0, locals := 42 })
def mX7_find : xa_MC := (yX7_find, cX7_find, 9, (some .int), { frames := 3, cells := 0, slots := 0, locals := 66 })
def mX7_isFound : xa_MC := (yX7_isFound, cX7_isFound, 5, (some .boolean), { frames := 2, cells := 0, slots := 0, locals := 42 })
def mX7_record : xa_MC := (yX7_record, cX7_record, 5, (some .int), { frames := 2, cells := 0, slots := 0, locals := 42 })
def mX7_service : xa_MC := (yX7_service, cX7_service, 4, (some .int), { frames := 1, cells := 0, slots := 0, locals := 21 })
def mX7_look : xa_MC := (yX7_look, cX7_look, 4, (some .int), { frames := 2, cells := 0, slots := 0, locals := 40 })
def mX7_hasProxyAwake : xa_MC := (yX7_hasProxyAwake, cX7_hasProxyAwake, 2, (some .boolean), { frames := 0, cells := 0, slots := 0, locals := 0 })
def mX6_size : xa_MC := (yX6_size, cX6_size, 1, (some .int), { frames := 1, cells := 0, slots := 0, locals := 20 })
def mX1_size : xa_MC := (yX1_size, cX1_size, 1, (some .int), { frames := 1, cells := 0, slots := 0, locals := 20 })
def mX0_size : xa_MC := (yX0_size, cX0_size, 1, (some .int), { frames := 1, cells := 0, slots := 0, locals := 20 })
def mX7_reach : xa_MC := (yX7_reach, cX7_reach, 5, (some .int), { frames := 2, cells := 0, slots := 0, locals := 42 })
def mX7_twice : xa_MC := (yX7_twice, cX7_twice, 5, (some .int), { frames := 2, cells := 0, slots := 0, locals := 43 })
def mX7_isSpokenForOn : xa_MC := (yX7_isSpokenForOn, cX7_isSpokenForOn, 3, (some .boolean), { frames := 1, cells := 0, slots := 0, locals := 21 })
def mX7_count : xa_MC := (yX7_count, cX7_count, 2, (some .int), { frames := 0, cells := 0, slots := 0, locals := 0 })
def mX8_init : xa_MC := (yX8_init, cX8_init, 2, none, { frames := 1, cells := 48, slots := 18808, locals := 20 })
def mX8_host : xa_MC := (yX8_host, cX8_host, 6, (some .int), { frames := 1, cells := 0, slots := 0, locals := 22 })
def mX8_in : xa_MC := (yX8_in, cX8_in, 3, (some .boolean), { frames := 0, cells := 0, slots := 0, locals := 0 })
def mX8_offer : xa_MC := (yX8_offer, cX8_offer, 6, (some .int), { frames := 5, cells := 0, slots := 0, locals := 109 })
def mX8_mayOffer : xa_MC := (yX8_mayOffer, cX8_mayOffer, 5, (some .boolean), { frames := 4, cells := 0, slots := 0, locals := 85 })
def mX8_isUp : xa_MC := (yX8_isUp, cX8_isUp, 2, (some .boolean), { frames := 3, cells := 0, slots := 0, locals := 64 })
def mX8_isAwake : xa_MC := (yX8_isAwake, cX8_isAwake, 2, (some .boolean), { frames := 2, cells := 0, slots := 0, locals := 43 })
def mX8_isHost : xa_MC := (yX8_isHost, cX8_isHost, 2, (some .boolean), { frames := 1, cells := 0, slots := 0, locals := 22 })
def mX8_many : xa_MC := (yX8_many, cX8_many, 4, (some .int), { frames := 0, cells := 0, slots := 0, locals := 0 })
def mX8_isNamed : xa_MC := (yX8_isNamed, cX8_isNamed, 5, (some .boolean), { frames := 0, cells := 0, slots := 0, locals := 0 })
def mX8_comes : xa_MC := (yX8_comes, cX8_comes, 7, (some .int), { frames := 0, cells := 0, slots := 0, locals := 0 })
def mX8_lie : xa_MC := (yX8_lie, cX8_lie, 7, (some .int), { frames := 5, cells := 0, slots := 0, locals := 109 })
def mX8_drop : xa_MC := (yX8_drop, cX8_drop, 2, (some .boolean), { frames := 5, cells := 0, slots := 0, locals := 106 })
def mX8_isOpen : xa_MC := (yX8_isOpen, cX8_isOpen, 2, (some .boolean), { frames := 4, cells := 0, slots := 0, locals := 85 })
def mX8_isService : xa_MC := (yX8_isService, cX8_isService, 2, (some .boolean), { frames := 1, cells := 0, slots := 0, locals := 22 })
def mX8_goes : xa_MC := (yX8_goes, cX8_goes, 3, none, { frames := 0, cells := 0, slots := 0, locals := 0 })
def mX8_change : xa_MC := (yX8_change, cX8_change, 3, (some .boolean), { frames := 5, cells := 0, slots := 0, locals := 106 })
def mX8_ask : xa_MC := (yX8_ask, cX8_ask, 4, (some .boolean), { frames := 4, cells := 0, slots := 0, locals := 85 })
def mX8_lot : xa_MC := (yX8_lot, cX8_lot, 2, (some .int), { frames := 0, cells := 0, slots := 0, locals := 0 })
def mX8_sleep : xa_MC := (yX8_sleep, cX8_sleep, 3, (some .boolean), { frames := 4, cells := 0, slots := 0, locals := 85 })
def mX8_wake : xa_MC := (yX8_wake, cX8_wake, 2, (some .boolean), { frames := 2, cells := 0, slots := 0, locals := 43 })
def mX8_wakes : xa_MC := (yX8_wakes, cX8_wakes, 2, none, { frames := 0, cells := 0, slots := 0, locals := 0 })
def mX8_fall : xa_MC := (yX8_fall, cX8_fall, 3, (some .boolean), { frames := 2, cells := 0, slots := 0, locals := 44 })
def mX8_isGone : xa_MC := (yX8_isGone, cX8_isGone, 3, none, { frames := 1, cells := 0, slots := 0, locals := 22 })
def mX8_empties : xa_MC := (yX8_empties, cX8_empties, 3, none, { frames := 0, cells := 0, slots := 0, locals := 0 })
def mX8_clears : xa_MC := (yX8_clears, cX8_clears, 3, none, { frames := 0, cells := 0, slots := 0, locals := 0 })
def mX8_leave : xa_MC := (yX8_leave, cX8_leave, 3, (some .boolean), { frames := 4, cells := 0, slots := 0, locals := 85 })
def mX8_keeper : xa_MC := (yX8_keeper, cX8_keeper, 3, (some .boolean), { frames := 4, cells := 0, slots := 0, locals := 85 })
def mX8_bridge : xa_MC := (yX8_bridge, cX8_bridge, 5, (some .boolean), { frames := 4, cells := 0, slots := 0, locals := 85 })
def mX8_lose : xa_MC := (yX8_lose, cX8_lose, 3, (some .boolean), { frames := 2, cells := 0, slots := 0, locals := 43 })
def mX8_deaf : xa_MC := (yX8_deaf, cX8_deaf, 3, (some .boolean), { frames := 2, cells := 0, slots := 0, locals := 43 })
def mX8_join : xa_MC := (yX8_join, cX8_join, 4, (some .boolean), { frames := 1, cells := 0, slots := 0, locals := 22 })
def mX8_tick : xa_MC := (yX8_tick, cX8_tick, 3, (some .int), { frames := 6, cells := 0, slots := 0, locals := 149 })
def mX8_oneTick : xa_MC := (yX8_oneTick, cX8_oneTick, 4, none, { frames := 5, cells := 0, slots := 0, locals := 126 })
def mX8_writesAll : xa_MC := (yX8_writesAll, cX8_writesAll, 4, none, { frames := 3, cells := 0, slots := 0, locals := 71 })
def mX8_byes : xa_MC := (yX8_byes, cX8_byes, 3, none, { frames := 0, cells := 0, slots := 0, locals := 0 })
def mX8_writes : xa_MC := (yX8_writes, cX8_writes, 3, none, { frames := 1, cells := 0, slots := 0, locals := 22 })
def mX8_isBare : xa_MC := (yX8_isBare, cX8_isBare, 3, (some .boolean), { frames := 0, cells := 0, slots := 0, locals := 0 })
def mX8_takesUp : xa_MC := (yX8_takesUp, cX8_takesUp, 8, none, { frames := 2, cells := 0, slots := 0, locals := 44 })
def mX8_asks : xa_MC := (yX8_asks, cX8_asks, 5, none, { frames := 1, cells := 0, slots := 0, locals := 26 })
def mX8_knownTo : xa_MC := (yX8_knownTo, cX8_knownTo, 7, (some .int), { frames := 0, cells := 0, slots := 0, locals := 0 })
def mX8_tells : xa_MC := (yX8_tells, cX8_tells, 7, none, { frames := 1, cells := 0, slots := 0, locals := 23 })
def mX8_speaksFor : xa_MC := (yX8_speaksFor, cX8_speaksFor, 4, (some .boolean), { frames := 0, cells := 0, slots := 0, locals := 0 })
def mX8_isHeard : xa_MC := (yX8_isHeard, cX8_isHeard, 5, none, { frames := 4, cells := 0, slots := 0, locals := 102 })
def mX8_carries : xa_MC := (yX8_carries, cX8_carries, 9, none, { frames := 1, cells := 0, slots := 0, locals := 24 })
def mX8_isCarried : xa_MC := (yX8_isCarried, cX8_isCarried, 5, (some .boolean), { frames := 0, cells := 0, slots := 0, locals := 0 })
def mX8_hears : xa_MC := (yX8_hears, cX8_hears, 5, none, { frames := 3, cells := 0, slots := 0, locals := 78 })
def mX8_hearsAsk : xa_MC := (yX8_hearsAsk, cX8_hearsAsk, 12, none, { frames := 1, cells := 0, slots := 0, locals := 26 })
def mX8_keeperOn : xa_MC := (yX8_keeperOn, cX8_keeperOn, 4, (some .int), { frames := 0, cells := 0, slots := 0, locals := 0 })
def mX8_isDue : xa_MC := (yX8_isDue, cX8_isDue, 5, none, { frames := 0, cells := 0, slots := 0, locals := 0 })
def mX8_hearsClaim : xa_MC := (yX8_hearsClaim, cX8_hearsClaim, 6, none, { frames := 2, cells := 0, slots := 0, locals := 49 })
def mX8_isStronger : xa_MC := (yX8_isStronger, cX8_isStronger, 5, (some .boolean), { frames := 0, cells := 0, slots := 0, locals := 0 })
def mX8_yieldsName : xa_MC := (yX8_yieldsName, cX8_yieldsName, 6, none, { frames := 1, cells := 0, slots := 0, locals := 24 })
def mX8_hearsTelling : xa_MC := (yX8_hearsTelling, cX8_hearsTelling, 10, none, { frames := 2, cells := 0, slots := 0, locals := 49 })
def mX8_find : xa_MC := (yX8_find, cX8_find, 9, (some .int), { frames := 2, cells := 0, slots := 0, locals := 43 })
def mX8_record : xa_MC := (yX8_record, cX8_record, 5, (some .int), { frames := 2, cells := 0, slots := 0, locals := 43 })
def mX8_service : xa_MC := (yX8_service, cX8_service, 3, (some .int), { frames := 2, cells := 0, slots := 0, locals := 43 })
def mX8_look : xa_MC := (yX8_look, cX8_look, 5, (some .int), { frames := 2, cells := 0, slots := 0, locals := 43 })
def mX8_reach : xa_MC := (yX8_reach, cX8_reach, 4, (some .int), { frames := 3, cells := 0, slots := 0, locals := 64 })
def mX8_twice : xa_MC := (yX8_twice, cX8_twice, 5, (some .int), { frames := 2, cells := 0, slots := 0, locals := 46 })
def mX8_isSpoken : xa_MC := (yX8_isSpoken, cX8_isSpoken, 4, (some .boolean), { frames := 1, cells := 0, slots := 0, locals := 23 })
def mX8_count : xa_MC := (yX8_count, cX8_count, 2, (some .int), { frames := 0, cells := 0, slots := 0, locals := 0 })
end
section
/-! ===== the abstract heap: numbered cells, ints and references apart; the machine's rows over it ===== -/
abbrev xa_EV : Type := Launch × va_G × (Nat → ClassId)
abbrev xa_AH : Type := Nat → Nat → Int32
abbrev xa_AR : Type := Nat → Nat → Option Nat
abbrev xa_ZC : Type := (State → Array Value → List Frame → (Nat → Nat) → State → Prop) × (State → (Nat → Nat) → Prop) × List Nat × (Nat → Prop)
def xa_kd (a : Nat) : Nat := xa_kT.getD (a % 256) 99
def xa_ln (a : Nat) : Nat := xa_lT.getD (a % 256) 0
def xa_isR (c k : Nat) : Bool := (xa_rT.getD c []).getD k false
def xa_cv (al : Nat → Nat) (v : Value) : Value := match v with
  | .ref a => .ref (al a)
  | w => w
theorem xa_cv_cat (al : Nat → Nat) (v : Value) : (xa_cv al v).category = v.category := by cases v <;> rfl
theorem xa_cv_rf (al : Nat → Nat) (o : Option Nat) : xa_cv al (va_rf o) = va_rf (o.map al) := by cases o <;> rfl
def xa_sv (al : Nat → Nat) (hi : xa_AH) (hr : xa_AR) (a k : Nat) : Value := if xa_isR (xa_kd a) k = true then va_rf ((hr a k).map al) else .int (hi a k)
def xa_en (dA : Nat → ClassId) (al : Nat → Nat) (hi : xa_AH) (hr : xa_AR) (a : Nat) : va_E :=
  if xa_kd a < 9 then .inr (xa_kd a, (List.range (xa_nT.getD (xa_kd a) 0)).map (xa_sv al hi hr a))
  else if xa_kd a < 11 then .inl (dA (xa_kd a), xa_ln a, .inl (hi a))
  else .inl (dA (xa_kd a), xa_ln a, .inr (.inr (.inr (.inr (fun j => (hr a j).map al)))))
def xa_wd (dA : Nat → ClassId) (al : Nat → Nat) (L : List Nat) (hi : xa_AH) (hr : xa_AR) : va_W := L.map (fun a => (al a, xa_en dA al hi hr a))
def xa_up (h : xa_AH) (a k : Nat) (v : Int32) : xa_AH := fun x y => if x = a ∧ y = k then v else h x y
def xa_upr (h : xa_AR) (a k : Nat) (v : Option Nat) : xa_AR := fun x y => if x = a ∧ y = k then v else h x y
abbrev xa_tys (dA : Nat → ClassId) : List (ClassId × FieldType) := [(dA 9, .int), (dA 10, .boolean), (dA 11, .object "WhoIsThere$Host"), (dA 12, .object "WhoIsThere$Service")]
def xa_nest : List Cond := tables_1.filter (fun w => match w with | .methodLinkNest .. => true | _ => false)
def xa_K (E : xa_EV) (U : State) : Prop := va_K E.2.1 xa_cl (xa_tys E.2.2) U ∧ (∀ w ∈ xa_nest, va_Nw w U) ∧ va_AO "WhoIsThere$Host" U ∧ va_AO "WhoIsThere$Service" U
theorem xa_nest_is {w : Cond} (h : w ∈ xa_nest) : ∃ a i x b, w = .methodLinkNest a i x b := by
  have h1 := (List.mem_filter.mp h).2
  cases w <;> first | exact ⟨_, _, _, _, rfl⟩ | (simp at h1)
theorem xa_K.warm {E : xa_EV} {s U : State} (hW : s.WarmedH U.vm) (h : xa_K E s) : xa_K E U := by
  refine ⟨h.1.moved hW.alike, fun w hw => ?_, h.2.2.1.moved hW.alike, h.2.2.2.moved hW.alike⟩
  obtain ⟨a, i, x, b, rfl⟩ := xa_nest_is hw
  exact (h.2.1 _ hw).warmM hW
theorem xa_K.same {E : xa_EV} {s U : State} (hv : s.vm = U.vm) (h : xa_K E s) : xa_K E U := by
  have ha : s.vm.Alike U.vm := by rw [hv]; exact Vm.Alike.refl _
  refine ⟨h.1.moved ha, fun w hw => ?_, h.2.2.1.moved ha, h.2.2.2.moved ha⟩
  obtain ⟨a, i, x, b, rfl⟩ := xa_nest_is hw
  exact va_Nw.same rfl hv (h.2.1 _ hw)
def xa_own (al : Nat → Nat) (L : List Nat) (sz : Nat) : Nat → Prop := fun q => (∃ a, a ∈ L ∧ q = al a) ∨ sz ≤ q
def xa_lv (al : Nat → Nat) (nL : Nat) (ls : List (Option Value)) (lm : Array Slot) : Prop := ∃ lv : List (Nat × Value), lv_has lm nL lv ∧ (∀ q ∈ lv, q.2.category = 1) ∧ ∀ (i : Nat) (v : Value), ls[i]? = some (some v) → (i, xa_cv al v) ∈ lv
def xa_cx (E : xa_EV) (M : xa_MC) (Z : xa_ZC) (p : Program) (s : State) (m : MethodId) (args : Array Value) (meth : Method) (c : Code) (al0 : Nat → Nat) : Prop :=
  p.tables.exec = Jvm.exec ∧ c.code = M.2.1 ∧ meth.sig.returnType = M.2.2.2.1 ∧ c.maxLocals = M.2.2.1 ∧ s.vm.findClass M.1.cls = some m.cls ∧ (∀ w ∈ xa_G, w.before args s = true) ∧ meth.locks = false ∧ meth.name = M.1.name ∧ xa_K E s ∧ Z.2.1 s al0
/-- the machine, at pc of the method M, with these locals, stack and cells, comes to the end that Z tells; kc cells of ks slots may still come -/
def xa_W (E : xa_EV) (M : xa_MC) (Z : xa_ZC) (kc ks pc : Nat) (ls : List (Option Value)) (st : List Value) (L : List Nat) (hi : xa_AH) (hr : xa_AR) : Prop :=
  ∀ (p : Program) (e : Env) (s : State) (m : MethodId) (args : Array Value) (below : List Frame) (meth : Method) (c : Code) (al0 al : Nat → Nat) (H : Heap) (locs : List Loc) (cells slots : Nat) (lm : Array Slot),
    xa_cx E M Z p s m args meth c al0 → (∀ a, Z.2.2.2 a → al a = al0 a) → va_P E.2.1 xa_cl (xa_wd E.2.2 al L hi hr) H → va_D (xa_own al0 Z.2.2.1 s.heap.size) (xa_wd E.2.2 al L hi hr) → va_S (xa_own al0 Z.2.2.1 s.heap.size) s.heap H locs → xa_lv al M.2.2.1 ls lm →
    cells + kc ≤ M.2.2.2.2.cells → slots + ks ≤ M.2.2.2.2.slots → W p E.1 e M.2.2.2.2 s m args below meth c H locs cells slots (Z.1 s args below al0) (F0 m pc lm (st.map (xa_cv al)))
theorem xa_get? {dA : Nat → ClassId} {al : Nat → Nat} {L : List Nat} {hi : xa_AH} {hr : xa_AR} {a : Nat} (ha : a ∈ L) : ∃ q0 : Nat, L[q0]? = some a ∧ (xa_wd dA al L hi hr)[q0]? = some (al a, xa_en dA al hi hr a) := by
  obtain ⟨q0, h⟩ := List.getElem?_of_mem ha
  exact ⟨q0, h, by simp [xa_wd, h]⟩
theorem xa_inj {dA : Nat → ClassId} {al : Nat → Nat} {L : List Nat} {hi : xa_AH} {hr : xa_AR} {A : Nat → Prop} (hD : va_D A (xa_wd dA al L hi hr)) {a b : Nat} (ha : a ∈ L) (hb : b ∈ L) (h : al a = al b) : a = b := by
  obtain ⟨i, h1, h2⟩ := xa_get? (dA := dA) (al := al) (hi := hi) (hr := hr) ha
  obtain ⟨j, h3, h4⟩ := xa_get? (dA := dA) (al := al) (hi := hi) (hr := hr) hb
  have e := hD.1 i j _ _ h2 h4 h
  subst e
  exact Option.some.inj (h1.symm.trans h3)
theorem xa_setw {dA : Nat → ClassId} {al : Nat → Nat} {L : List Nat} {hi hi' : xa_AH} {hr hr' : xa_AR} {A : Nat → Prop} (hD : va_D A (xa_wd dA al L hi hr)) {a q0 : Nat} {e : va_E} (hq : L[q0]? = some a) (ho : ∀ b, b ≠ a → xa_en dA al hi' hr' b = xa_en dA al hi hr b) (he : xa_en dA al hi' hr' a = e) : (xa_wd dA al L hi hr).set q0 (al a, e) = xa_wd dA al L hi' hr' := by
  have hl : q0 < (xa_wd dA al L hi hr).length := by
    have := (List.getElem?_eq_some_iff.mp hq).1
    simpa [xa_wd] using this
  apply List.ext_getElem?
  intro j
  by_cases hj : j = q0
  · subst hj
    rw [List.getElem?_set_self hl]
    simp [xa_wd, hq, he]
  · rw [List.getElem?_set_ne (Ne.symm hj)]
    simp only [xa_wd, List.getElem?_map]
    cases hb : L[j]? with
    | none => rfl
    | some b =>
      have hne : b ≠ a := by
        intro hba
        subst hba
        exact hj (hD.1 j q0 (al b, xa_en dA al hi hr b) (al b, xa_en dA al hi hr b) (by simp [xa_wd, hb]) (by simp [xa_wd, hq]) rfl)
      simp [ho b hne]
theorem xa_D_same {dA : Nat → ClassId} {al : Nat → Nat} {L : List Nat} {hi hi' : xa_AH} {hr hr' : xa_AR} {A : Nat → Prop} (hD : va_D A (xa_wd dA al L hi hr)) : va_D A (xa_wd dA al L hi' hr') := by
  have key : ∀ (k : Nat) (q : Nat × va_E), (xa_wd dA al L hi' hr')[k]? = some q → ∃ q0, (xa_wd dA al L hi hr)[k]? = some q0 ∧ q0.1 = q.1 := by
    intro k q hk
    simp only [xa_wd, List.getElem?_map] at hk ⊢
    cases hb : L[k]? with
    | none => rw [hb] at hk; cases hk
    | some b => rw [hb] at hk; cases hk; exact ⟨_, rfl, rfl⟩
  refine ⟨fun i j x y h1 h2 h3 => ?_, fun k q hk => ?_⟩
  · obtain ⟨x0, g1, g2⟩ := key i x h1
    obtain ⟨y0, g3, g4⟩ := key j y h2
    exact hD.1 i j x0 y0 g1 g3 (by rw [g2, g4]; exact h3)
  · obtain ⟨q0, g1, g2⟩ := key k q hk
    rw [← g2]
    exact hD.2 k q0 g1
theorem xa_lv_st {al : Nat → Nat} {nL : Nat} {ls : List (Option Value)} {lm' : Array Slot} {lv : List (Nat × Value)} {i : Nat} {v : Value} (h2 : ∀ q ∈ lv, q.2.category = 1) (h3 : ∀ (i : Nat) (v : Value), ls[i]? = some (some v) → (i, xa_cv al v) ∈ lv) (hc : v.category = 1)
    (h' : lv_has lm' nL ((i, xa_cv al v) :: lv.filter (fun q => !(q.1 == i) && !(q.1 + 1 == i && q.2.category == 2)))) : xa_lv al nL (ls.set i (some v)) lm' := by
  refine ⟨_, h', fun q hq => ?_, fun j w hw => ?_⟩
  · rcases List.mem_cons.mp hq with rfl | hq
    · show (xa_cv al v).category = 1
      rw [xa_cv_cat]; exact hc
    · exact h2 q (List.mem_filter.mp hq).1
  · by_cases hj : j = i
    · subst hj
      by_cases hl : j < ls.length
      · rw [List.getElem?_set_self hl] at hw
        cases hw
        exact List.mem_cons_self
      · rw [List.set_eq_of_length_le (by omega)] at hw
        have := (List.getElem?_eq_some_iff.mp hw).1
        omega
    · rw [List.getElem?_set_ne (Ne.symm hj)] at hw
      have h1 := h3 j w hw
      refine List.mem_cons_of_mem _ (List.mem_filter.mpr ⟨h1, ?_⟩)
      have hcw := h2 _ h1
      simp [hj, hcw]
/-- a field's link: own class, pool index, class number and slot of the field -/
def xa_FL (own : String) (idx ci kf : Nat) : Prop := ∃ (C : String) (T : u_T) (N : Nat), xa_cl[ci]? = some (C, T, N) ∧ N = xa_nT.getD ci 0 ∧ (∀ w ∈ u_ws C T N, w ∈ xa_G) ∧ kf < N ∧ Cond.fieldLink own idx (T kf).1 (T kf).2.1 (T kf).2.2.1 ∈ xa_G
/-- a field that may be written: not final, its type -/
def xa_FP (own : String) (idx ci kf : Nat) (ty : FieldType) : Prop := ∃ (C : String) (T : u_T) (N : Nat) (ty0 : Nat → FieldType), xa_cl[ci]? = some (C, T, N) ∧ N = xa_nT.getD ci 0 ∧ (∀ w ∈ u_ws C T N, w ∈ xa_G) ∧ kf < N ∧ Cond.fieldLink own idx (T kf).1 (T kf).2.1 (T kf).2.2.1 ∈ xa_G ∧
  (∀ k, k < N → parseFieldDescriptor (T k).2.2.1 = some (ty0 k)) ∧ (∀ a, a < N → ∀ b, b < N → a ≠ b → (T a).2.1 ≠ (T b).2.1) ∧ (T kf).2.2.2 = false ∧ parseFieldDescriptor (T kf).2.2.1 = some ty
/-- a final field, in its class's constructor -/
def xa_FF (own : String) (idx ci kf : Nat) (ty : FieldType) : Prop := ∃ (C : String) (T : u_T) (N : Nat) (ty0 : Nat → FieldType), xa_cl[ci]? = some (C, T, N) ∧ N = xa_nT.getD ci 0 ∧ (∀ w ∈ u_ws C T N, w ∈ xa_G) ∧ kf < N ∧ Cond.fieldLink own idx (T kf).1 (T kf).2.1 (T kf).2.2.1 ∈ xa_G ∧
  (∀ k, k < N → parseFieldDescriptor (T k).2.2.1 = some (ty0 k)) ∧ (∀ a, a < N → ∀ b, b < N → a ≠ b → (T a).2.1 ≠ (T b).2.1) ∧ (T kf).2.2.2 = true ∧ (T kf).1 = own ∧ parseFieldDescriptor (T kf).2.2.1 = some ty
theorem xa_ci {ci : Nat} {q : vw_C} (h : xa_cl[ci]? = some q) : ci < 9 := (List.getElem?_eq_some_iff.mp h).1
theorem xa_en_o {dA : Nat → ClassId} {al : Nat → Nat} {hi : xa_AH} {hr : xa_AR} {a ci : Nat} (hk : xa_kd a = ci) (hc : ci < 9) : xa_en dA al hi hr a = .inr (ci, (List.range (xa_nT.getD ci 0)).map (xa_sv al hi hr a)) := by
  subst hk
  simp [xa_en, hc]
theorem xa_en_i {dA : Nat → ClassId} {al : Nat → Nat} {hi : xa_AH} {hr : xa_AR} {a : Nat} (hk : xa_kd a = 9) : xa_en dA al hi hr a = .inl (dA 9, xa_ln a, .inl (hi a)) := by
  simp [xa_en, hk]
theorem xa_en_z {dA : Nat → ClassId} {al : Nat → Nat} {hi : xa_AH} {hr : xa_AR} {a : Nat} (hk : xa_kd a = 10) : xa_en dA al hi hr a = .inl (dA 10, xa_ln a, .inl (hi a)) := by
  simp [xa_en, hk]
theorem xa_en_r {dA : Nat → ClassId} {al : Nat → Nat} {hi : xa_AH} {hr : xa_AR} {a k : Nat} (hk : xa_kd a = k) (h1 : ¬ k < 11) : xa_en dA al hi hr a = .inl (dA k, xa_ln a, .inr (.inr (.inr (.inr (fun j => (hr a j).map al))))) := by
  subst hk
  have h2 : ¬ xa_kd a < 9 := by omega
  simp [xa_en, h1, h2]
theorem xa_en_up {dA : Nat → ClassId} {al : Nat → Nat} {hi : xa_AH} {hr : xa_AR} {a k : Nat} {v : Int32} (b : Nat) (h : b ≠ a) : xa_en dA al (xa_up hi a k v) hr b = xa_en dA al hi hr b := by
  have e : (xa_up hi a k v) b = hi b := by funext y; simp [xa_up, h]
  have e2 : xa_sv al (xa_up hi a k v) hr b = xa_sv al hi hr b := by funext y; simp [xa_sv, e]
  simp [xa_en, e, e2]
theorem xa_en_upr {dA : Nat → ClassId} {al : Nat → Nat} {hi : xa_AH} {hr : xa_AR} {a k : Nat} {v : Option Nat} (b : Nat) (h : b ≠ a) : xa_en dA al hi (xa_upr hr a k v) b = xa_en dA al hi hr b := by
  have e : (xa_upr hr a k v) b = hr b := by funext y; simp [xa_upr, h]
  have e2 : xa_sv al hi (xa_upr hr a k v) b = xa_sv al hi hr b := by funext y; simp [xa_sv, e]
  simp [xa_en, e, e2]
theorem xa_rng_set {N k : Nat} (hk : k < N) (f g : Nat → Value) (v : Value) (h1 : g k = v) (h2 : ∀ j, j ≠ k → g j = f j) : ((List.range N).map f).set k v = (List.range N).map g := by
  apply List.ext_getElem?
  intro j
  by_cases hj : j = k
  · subst hj
    rw [List.getElem?_set_self (by simpa using hk)]
    simp [hk, h1]
  · rw [List.getElem?_set_ne (Ne.symm hj)]
    simp only [List.getElem?_map]
    cases hb : (List.range N)[j]? with
    | none => rfl
    | some b =>
      have : b = j := by
        obtain ⟨h3, h4⟩ := List.getElem?_eq_some_iff.mp hb
        simpa using h4.symm
      subst this
      simp [h2 b hj]
theorem xa_own_new {al : Nat → Nat} {L : List Nat} {sz : Nat} : ∀ q : Nat, sz ≤ q → xa_own al L sz q := fun _ h => Or.inr h
end
section
section XA4
variable {E : xa_EV} {M : xa_MC} {Z : xa_ZC} {kc ks pc : Nat} {ls : List (Option Value)} {st : List Value} {L : List Nat} {hi : xa_AH} {hr : xa_AR}
theorem xa_iadd {x y : Int32} (hd : decode M.2.1 pc = .ok (.iadd, 1))  (k : xa_W E M Z kc ks (pc + 1) ls (.int (x + y) :: st) L hi hr) : xa_W E M Z kc ks pc ls (.int y :: .int x :: st) L hi hr := by
  intro p e s m args below meth c al0 al H locs cells slots lm C hN hP hD hS hl hc hs
  exact lv_iadd C.1 C.2.1 hd  (k p e s m args below meth c al0 al H locs cells slots lm C hN hP hD hS hl hc hs)
theorem xa_isub {x y : Int32} (hd : decode M.2.1 pc = .ok (.isub, 1))  (k : xa_W E M Z kc ks (pc + 1) ls (.int (x - y) :: st) L hi hr) : xa_W E M Z kc ks pc ls (.int y :: .int x :: st) L hi hr := by
  intro p e s m args below meth c al0 al H locs cells slots lm C hN hP hD hS hl hc hs
  exact lv_isub C.1 C.2.1 hd  (k p e s m args below meth c al0 al H locs cells slots lm C hN hP hD hS hl hc hs)
theorem xa_imul {x y : Int32} (hd : decode M.2.1 pc = .ok (.imul, 1))  (k : xa_W E M Z kc ks (pc + 1) ls (.int (x * y) :: st) L hi hr) : xa_W E M Z kc ks pc ls (.int y :: .int x :: st) L hi hr := by
  intro p e s m args below meth c al0 al H locs cells slots lm C hN hP hD hS hl hc hs
  exact lv_imul C.1 C.2.1 hd  (k p e s m args below meth c al0 al H locs cells slots lm C hN hP hD hS hl hc hs)
theorem xa_iand {x y : Int32} (hd : decode M.2.1 pc = .ok (.iand, 1))  (k : xa_W E M Z kc ks (pc + 1) ls (.int (x &&& y) :: st) L hi hr) : xa_W E M Z kc ks pc ls (.int y :: .int x :: st) L hi hr := by
  intro p e s m args below meth c al0 al H locs cells slots lm C hN hP hD hS hl hc hs
  exact lv_iand C.1 C.2.1 hd  (k p e s m args below meth c al0 al H locs cells slots lm C hN hP hD hS hl hc hs)
theorem xa_ior {x y : Int32} (hd : decode M.2.1 pc = .ok (.ior, 1))  (k : xa_W E M Z kc ks (pc + 1) ls (.int (x ||| y) :: st) L hi hr) : xa_W E M Z kc ks pc ls (.int y :: .int x :: st) L hi hr := by
  intro p e s m args below meth c al0 al H locs cells slots lm C hN hP hD hS hl hc hs
  exact lv_ior C.1 C.2.1 hd  (k p e s m args below meth c al0 al H locs cells slots lm C hN hP hD hS hl hc hs)
theorem xa_ixor {x y : Int32} (hd : decode M.2.1 pc = .ok (.ixor, 1))  (k : xa_W E M Z kc ks (pc + 1) ls (.int (x ^^^ y) :: st) L hi hr) : xa_W E M Z kc ks pc ls (.int y :: .int x :: st) L hi hr := by
  intro p e s m args below meth c al0 al H locs cells slots lm C hN hP hD hS hl hc hs
  exact lv_ixor C.1 C.2.1 hd  (k p e s m args below meth c al0 al H locs cells slots lm C hN hP hD hS hl hc hs)
theorem xa_ishl {x y : Int32} (hd : decode M.2.1 pc = .ok (.ishl, 1))  (k : xa_W E M Z kc ks (pc + 1) ls (.int (x <<< (y &&& 31)) :: st) L hi hr) : xa_W E M Z kc ks pc ls (.int y :: .int x :: st) L hi hr := by
  intro p e s m args below meth c al0 al H locs cells slots lm C hN hP hD hS hl hc hs
  exact lv_ishl C.1 C.2.1 hd  (k p e s m args below meth c al0 al H locs cells slots lm C hN hP hD hS hl hc hs)
theorem xa_ishr {x y : Int32} (hd : decode M.2.1 pc = .ok (.ishr, 1))  (k : xa_W E M Z kc ks (pc + 1) ls (.int (x >>> (y &&& 31)) :: st) L hi hr) : xa_W E M Z kc ks pc ls (.int y :: .int x :: st) L hi hr := by
  intro p e s m args below meth c al0 al H locs cells slots lm C hN hP hD hS hl hc hs
  exact lv_ishr C.1 C.2.1 hd  (k p e s m args below meth c al0 al H locs cells slots lm C hN hP hD hS hl hc hs)
theorem xa_iushr {x y : Int32} (hd : decode M.2.1 pc = .ok (.iushr, 1))  (k : xa_W E M Z kc ks (pc + 1) ls (.int ((x.toUInt32 >>> (y.toUInt32 &&& Int32.toUInt32 31)).toInt32) :: st) L hi hr) : xa_W E M Z kc ks pc ls (.int y :: .int x :: st) L hi hr := by
  intro p e s m args below meth c al0 al H locs cells slots lm C hN hP hD hS hl hc hs
  exact lv_iushr C.1 C.2.1 hd rfl (k p e s m args below meth c al0 al H locs cells slots lm C hN hP hD hS hl hc hs)
theorem xa_idiv {x y : Int32} (hd : decode M.2.1 pc = .ok (.idiv, 1)) (hne : ¬ y = 0) (k : xa_W E M Z kc ks (pc + 1) ls (.int (x / y) :: st) L hi hr) : xa_W E M Z kc ks pc ls (.int y :: .int x :: st) L hi hr := by
  intro p e s m args below meth c al0 al H locs cells slots lm C hN hP hD hS hl hc hs
  exact lv_idiv C.1 C.2.1 hd hne (k p e s m args below meth c al0 al H locs cells slots lm C hN hP hD hS hl hc hs)
theorem xa_irem {x y : Int32} (hd : decode M.2.1 pc = .ok (.irem, 1)) (hne : ¬ y = 0) (k : xa_W E M Z kc ks (pc + 1) ls (.int (x - x / y * y) :: st) L hi hr) : xa_W E M Z kc ks pc ls (.int y :: .int x :: st) L hi hr := by
  intro p e s m args below meth c al0 al H locs cells slots lm C hN hP hD hS hl hc hs
  exact lv_irem C.1 C.2.1 hd hne (k p e s m args below meth c al0 al H locs cells slots lm C hN hP hD hS hl hc hs)
theorem xa_iconst {n : Int} {v : Int32} (hd : decode M.2.1 pc = .ok (.iconst n, 1)) (hv : Int32.ofInt n = v) (k : xa_W E M Z kc ks (pc + 1) ls (.int v :: st) L hi hr) : xa_W E M Z kc ks pc ls st L hi hr := by
  intro p e s m args below meth c al0 al H locs cells slots lm C hN hP hD hS hl hc hs
  exact lv_iconst C.1 C.2.1 hd hv (k p e s m args below meth c al0 al H locs cells slots lm C hN hP hD hS hl hc hs)
theorem xa_bipush {n : Int} {v : Int32} (hd : decode M.2.1 pc = .ok (.bipush n, 2)) (hv : (Int8.ofInt n).toInt32 = v) (k : xa_W E M Z kc ks (pc + 2) ls (.int v :: st) L hi hr) : xa_W E M Z kc ks pc ls st L hi hr := by
  intro p e s m args below meth c al0 al H locs cells slots lm C hN hP hD hS hl hc hs
  exact lv_bipush C.1 C.2.1 hd hv (k p e s m args below meth c al0 al H locs cells slots lm C hN hP hD hS hl hc hs)
theorem xa_sipush {n : Int} {v : Int32} (hd : decode M.2.1 pc = .ok (.sipush n, 3)) (hv : (Int16.ofInt n).toInt32 = v) (k : xa_W E M Z kc ks (pc + 3) ls (.int v :: st) L hi hr) : xa_W E M Z kc ks pc ls st L hi hr := by
  intro p e s m args below meth c al0 al H locs cells slots lm C hN hP hD hS hl hc hs
  exact lv_sipush C.1 C.2.1 hd hv (k p e s m args below meth c al0 al H locs cells slots lm C hN hP hD hS hl hc hs)
theorem xa_null  (hd : decode M.2.1 pc = .ok (.aconst_null, 1))  (k : xa_W E M Z kc ks (pc + 1) ls (.null :: st) L hi hr) : xa_W E M Z kc ks pc ls st L hi hr := by
  intro p e s m args below meth c al0 al H locs cells slots lm C hN hP hD hS hl hc hs
  exact lv_null C.1 C.2.1 hd  (k p e s m args below meth c al0 al H locs cells slots lm C hN hP hD hS hl hc hs)
theorem xa_dup {v : Value} (hd : decode M.2.1 pc = .ok (.dup, 1)) (hv : v.category = 1) (k : xa_W E M Z kc ks (pc + 1) ls (v :: v :: st) L hi hr) : xa_W E M Z kc ks pc ls (v :: st) L hi hr := by
  intro p e s m args below meth c al0 al H locs cells slots lm C hN hP hD hS hl hc hs
  exact lv_dup C.1 C.2.1 hd ((xa_cv_cat al v).trans hv) (k p e s m args below meth c al0 al H locs cells slots lm C hN hP hD hS hl hc hs)
theorem xa_dup2 {v w : Value} (hd : decode M.2.1 pc = .ok (.dup2, 1)) (hv : v.category = 1) (hw : w.category = 1) (k : xa_W E M Z kc ks (pc + 1) ls (v :: w :: v :: w :: st) L hi hr) : xa_W E M Z kc ks pc ls (v :: w :: st) L hi hr := by
  intro p e s m args below meth c al0 al H locs cells slots lm C hN hP hD hS hl hc hs
  exact lv_dup2_11 C.1 C.2.1 hd ((xa_cv_cat al v).trans hv) ((xa_cv_cat al w).trans hw) (k p e s m args below meth c al0 al H locs cells slots lm C hN hP hD hS hl hc hs)
theorem xa_goto {off : Int} {tgt : Nat} (hd : decode M.2.1 pc = .ok (.goto off, 3)) (ht : (pc : Int) + off = (tgt : Int)) (k : xa_W E M Z kc ks tgt ls st L hi hr) : xa_W E M Z kc ks pc ls st L hi hr := by
  intro p e s m args below meth c al0 al H locs cells slots lm C hN hP hD hS hl hc hs
  exact lv_goto C.1 C.2.1 hd ht (k p e s m args below meth c al0 al H locs cells slots lm C hN hP hD hS hl hc hs)
theorem xa_icmp_eq {x y : Int32} {off : Int} (tgt : Nat) (hd : decode M.2.1 pc = .ok (.if_icmp .eq off, 3)) (ht : (pc : Int) + off = (tgt : Int)) (kt : x = y → xa_W E M Z kc ks tgt ls st L hi hr) (kf : ¬ x = y → xa_W E M Z kc ks (pc + 3) ls st L hi hr) : xa_W E M Z kc ks pc ls (.int y :: .int x :: st) L hi hr := by
  intro p e s m args below meth c al0 al H locs cells slots lm C hN hP hD hS hl hc hs
  exact lv_icmp_eq C.1 C.2.1 hd ht (fun h => kt h p e s m args below meth c al0 al H locs cells slots lm C hN hP hD hS hl hc hs) (fun h => kf h p e s m args below meth c al0 al H locs cells slots lm C hN hP hD hS hl hc hs)
theorem xa_if_eq {x : Int32} {off : Int} (tgt : Nat) (hd : decode M.2.1 pc = .ok (.ifCond .eq off, 3)) (ht : (pc : Int) + off = (tgt : Int)) (kt : x = 0 → xa_W E M Z kc ks tgt ls st L hi hr) (kf : ¬ x = 0 → xa_W E M Z kc ks (pc + 3) ls st L hi hr) : xa_W E M Z kc ks pc ls (.int x :: st) L hi hr := by
  intro p e s m args below meth c al0 al H locs cells slots lm C hN hP hD hS hl hc hs
  exact lv_if_eq C.1 C.2.1 hd ht (fun h => kt h p e s m args below meth c al0 al H locs cells slots lm C hN hP hD hS hl hc hs) (fun h => kf h p e s m args below meth c al0 al H locs cells slots lm C hN hP hD hS hl hc hs)
theorem xa_icmp_ne {x y : Int32} {off : Int} (tgt : Nat) (hd : decode M.2.1 pc = .ok (.if_icmp .ne off, 3)) (ht : (pc : Int) + off = (tgt : Int)) (kt : ¬ x = y → xa_W E M Z kc ks tgt ls st L hi hr) (kf : x = y → xa_W E M Z kc ks (pc + 3) ls st L hi hr) : xa_W E M Z kc ks pc ls (.int y :: .int x :: st) L hi hr := by
  intro p e s m args below meth c al0 al H locs cells slots lm C hN hP hD hS hl hc hs
  exact lv_icmp_ne C.1 C.2.1 hd ht (fun h => kt h p e s m args below meth c al0 al H locs cells slots lm C hN hP hD hS hl hc hs) (fun h => kf h p e s m args below meth c al0 al H locs cells slots lm C hN hP hD hS hl hc hs)
theorem xa_if_ne {x : Int32} {off : Int} (tgt : Nat) (hd : decode M.2.1 pc = .ok (.ifCond .ne off, 3)) (ht : (pc : Int) + off = (tgt : Int)) (kt : ¬ x = 0 → xa_W E M Z kc ks tgt ls st L hi hr) (kf : x = 0 → xa_W E M Z kc ks (pc + 3) ls st L hi hr) : xa_W E M Z kc ks pc ls (.int x :: st) L hi hr := by
  intro p e s m args below meth c al0 al H locs cells slots lm C hN hP hD hS hl hc hs
  exact lv_if_ne C.1 C.2.1 hd ht (fun h => kt h p e s m args below meth c al0 al H locs cells slots lm C hN hP hD hS hl hc hs) (fun h => kf h p e s m args below meth c al0 al H locs cells slots lm C hN hP hD hS hl hc hs)
theorem xa_icmp_ge {x y : Int32} {off : Int} (tgt : Nat) (hd : decode M.2.1 pc = .ok (.if_icmp .ge off, 3)) (ht : (pc : Int) + off = (tgt : Int)) (kt : y ≤ x → xa_W E M Z kc ks tgt ls st L hi hr) (kf : ¬ y ≤ x → xa_W E M Z kc ks (pc + 3) ls st L hi hr) : xa_W E M Z kc ks pc ls (.int y :: .int x :: st) L hi hr := by
  intro p e s m args below meth c al0 al H locs cells slots lm C hN hP hD hS hl hc hs
  exact lv_icmp_ge C.1 C.2.1 hd ht (fun h => kt h p e s m args below meth c al0 al H locs cells slots lm C hN hP hD hS hl hc hs) (fun h => kf h p e s m args below meth c al0 al H locs cells slots lm C hN hP hD hS hl hc hs)
theorem xa_if_ge {x : Int32} {off : Int} (tgt : Nat) (hd : decode M.2.1 pc = .ok (.ifCond .ge off, 3)) (ht : (pc : Int) + off = (tgt : Int)) (kt : 0 ≤ x → xa_W E M Z kc ks tgt ls st L hi hr) (kf : ¬ 0 ≤ x → xa_W E M Z kc ks (pc + 3) ls st L hi hr) : xa_W E M Z kc ks pc ls (.int x :: st) L hi hr := by
  intro p e s m args below meth c al0 al H locs cells slots lm C hN hP hD hS hl hc hs
  exact lv_if_ge C.1 C.2.1 hd ht (fun h => kt h p e s m args below meth c al0 al H locs cells slots lm C hN hP hD hS hl hc hs) (fun h => kf h p e s m args below meth c al0 al H locs cells slots lm C hN hP hD hS hl hc hs)
theorem xa_icmp_gt {x y : Int32} {off : Int} (tgt : Nat) (hd : decode M.2.1 pc = .ok (.if_icmp .gt off, 3)) (ht : (pc : Int) + off = (tgt : Int)) (kt : y < x → xa_W E M Z kc ks tgt ls st L hi hr) (kf : ¬ y < x → xa_W E M Z kc ks (pc + 3) ls st L hi hr) : xa_W E M Z kc ks pc ls (.int y :: .int x :: st) L hi hr := by
  intro p e s m args below meth c al0 al H locs cells slots lm C hN hP hD hS hl hc hs
  exact lv_icmp_gt C.1 C.2.1 hd ht (fun h => kt h p e s m args below meth c al0 al H locs cells slots lm C hN hP hD hS hl hc hs) (fun h => kf h p e s m args below meth c al0 al H locs cells slots lm C hN hP hD hS hl hc hs)
theorem xa_if_gt {x : Int32} {off : Int} (tgt : Nat) (hd : decode M.2.1 pc = .ok (.ifCond .gt off, 3)) (ht : (pc : Int) + off = (tgt : Int)) (kt : 0 < x → xa_W E M Z kc ks tgt ls st L hi hr) (kf : ¬ 0 < x → xa_W E M Z kc ks (pc + 3) ls st L hi hr) : xa_W E M Z kc ks pc ls (.int x :: st) L hi hr := by
  intro p e s m args below meth c al0 al H locs cells slots lm C hN hP hD hS hl hc hs
  exact lv_if_gt C.1 C.2.1 hd ht (fun h => kt h p e s m args below meth c al0 al H locs cells slots lm C hN hP hD hS hl hc hs) (fun h => kf h p e s m args below meth c al0 al H locs cells slots lm C hN hP hD hS hl hc hs)
theorem xa_icmp_le {x y : Int32} {off : Int} (tgt : Nat) (hd : decode M.2.1 pc = .ok (.if_icmp .le off, 3)) (ht : (pc : Int) + off = (tgt : Int)) (kt : x ≤ y → xa_W E M Z kc ks tgt ls st L hi hr) (kf : ¬ x ≤ y → xa_W E M Z kc ks (pc + 3) ls st L hi hr) : xa_W E M Z kc ks pc ls (.int y :: .int x :: st) L hi hr := by
  intro p e s m args below meth c al0 al H locs cells slots lm C hN hP hD hS hl hc hs
  exact lv_icmp_le C.1 C.2.1 hd ht (fun h => kt h p e s m args below meth c al0 al H locs cells slots lm C hN hP hD hS hl hc hs) (fun h => kf h p e s m args below meth c al0 al H locs cells slots lm C hN hP hD hS hl hc hs)
theorem xa_if_le {x : Int32} {off : Int} (tgt : Nat) (hd : decode M.2.1 pc = .ok (.ifCond .le off, 3)) (ht : (pc : Int) + off = (tgt : Int)) (kt : x ≤ 0 → xa_W E M Z kc ks tgt ls st L hi hr) (kf : ¬ x ≤ 0 → xa_W E M Z kc ks (pc + 3) ls st L hi hr) : xa_W E M Z kc ks pc ls (.int x :: st) L hi hr := by
  intro p e s m args below meth c al0 al H locs cells slots lm C hN hP hD hS hl hc hs
  exact lv_if_le C.1 C.2.1 hd ht (fun h => kt h p e s m args below meth c al0 al H locs cells slots lm C hN hP hD hS hl hc hs) (fun h => kf h p e s m args below meth c al0 al H locs cells slots lm C hN hP hD hS hl hc hs)
theorem xa_icmp_lt {x y : Int32} {off : Int} (tgt : Nat) (hd : decode M.2.1 pc = .ok (.if_icmp .lt off, 3)) (ht : (pc : Int) + off = (tgt : Int)) (kt : x < y → xa_W E M Z kc ks tgt ls st L hi hr) (kf : ¬ x < y → xa_W E M Z kc ks (pc + 3) ls st L hi hr) : xa_W E M Z kc ks pc ls (.int y :: .int x :: st) L hi hr := by
  intro p e s m args below meth c al0 al H locs cells slots lm C hN hP hD hS hl hc hs
  exact lv_icmp_lt C.1 C.2.1 hd ht (fun h => kt h p e s m args below meth c al0 al H locs cells slots lm C hN hP hD hS hl hc hs) (fun h => kf h p e s m args below meth c al0 al H locs cells slots lm C hN hP hD hS hl hc hs)
theorem xa_if_lt {x : Int32} {off : Int} (tgt : Nat) (hd : decode M.2.1 pc = .ok (.ifCond .lt off, 3)) (ht : (pc : Int) + off = (tgt : Int)) (kt : x < 0 → xa_W E M Z kc ks tgt ls st L hi hr) (kf : ¬ x < 0 → xa_W E M Z kc ks (pc + 3) ls st L hi hr) : xa_W E M Z kc ks pc ls (.int x :: st) L hi hr := by
  intro p e s m args below meth c al0 al H locs cells slots lm C hN hP hD hS hl hc hs
  exact lv_if_lt C.1 C.2.1 hd ht (fun h => kt h p e s m args below meth c al0 al H locs cells slots lm C hN hP hD hS hl hc hs) (fun h => kf h p e s m args below meth c al0 al H locs cells slots lm C hN hP hD hS hl hc hs)
theorem xa_ifnull_ref {a : Nat} {off : Int} (hd : decode M.2.1 pc = .ok (.ifnull off, 3)) (k : xa_W E M Z kc ks (pc + 3) ls st L hi hr) : xa_W E M Z kc ks pc ls (.ref a :: st) L hi hr := by
  intro p e s m args below meth c al0 al H locs cells slots lm C hN hP hD hS hl hc hs
  exact lv_ifnull C.1 C.2.1 hd (k p e s m args below meth c al0 al H locs cells slots lm C hN hP hD hS hl hc hs)
theorem xa_ifnull_null {off : Int} (tgt : Nat) (hd : decode M.2.1 pc = .ok (.ifnull off, 3)) (ht : (pc : Int) + off = (tgt : Int)) (k : xa_W E M Z kc ks tgt ls st L hi hr) : xa_W E M Z kc ks pc ls (.null :: st) L hi hr := by
  intro p e s m args below meth c al0 al H locs cells slots lm C hN hP hD hS hl hc hs
  exact lv_ifnullN C.1 C.2.1 hd ht (k p e s m args below meth c al0 al H locs cells slots lm C hN hP hD hS hl hc hs)
theorem xa_ifnonnull_ref {a : Nat} {off : Int} (tgt : Nat) (hd : decode M.2.1 pc = .ok (.ifnonnull off, 3)) (ht : (pc : Int) + off = (tgt : Int)) (k : xa_W E M Z kc ks tgt ls st L hi hr) : xa_W E M Z kc ks pc ls (.ref a :: st) L hi hr := by
  intro p e s m args below meth c al0 al H locs cells slots lm C hN hP hD hS hl hc hs
  exact lv_ifnonnull C.1 C.2.1 hd ht (k p e s m args below meth c al0 al H locs cells slots lm C hN hP hD hS hl hc hs)
theorem xa_ifnonnull_null {off : Int} (hd : decode M.2.1 pc = .ok (.ifnonnull off, 3)) (k : xa_W E M Z kc ks (pc + 3) ls st L hi hr) : xa_W E M Z kc ks pc ls (.null :: st) L hi hr := by
  intro p e s m args below meth c al0 al H locs cells slots lm C hN hP hD hS hl hc hs
  exact lv_ifnonnullN C.1 C.2.1 hd (k p e s m args below meth c al0 al H locs cells slots lm C hN hP hD hS hl hc hs)
theorem xa_ifnull {o : Option Nat} {off : Int} (tgt : Nat) (hd : decode M.2.1 pc = .ok (.ifnull off, 3)) (ht : (pc : Int) + off = (tgt : Int)) (kt : o = none → xa_W E M Z kc ks tgt ls st L hi hr) (kf : ∀ a, o = some a → xa_W E M Z kc ks (pc + 3) ls st L hi hr) : xa_W E M Z kc ks pc ls (va_rf o :: st) L hi hr := by
  cases o with
  | none => exact xa_ifnull_null tgt hd ht (kt rfl)
  | some a => exact xa_ifnull_ref hd (kf a rfl)
theorem xa_ifnonnull {o : Option Nat} {off : Int} (tgt : Nat) (hd : decode M.2.1 pc = .ok (.ifnonnull off, 3)) (ht : (pc : Int) + off = (tgt : Int)) (kt : ∀ a, o = some a → xa_W E M Z kc ks tgt ls st L hi hr) (kf : o = none → xa_W E M Z kc ks (pc + 3) ls st L hi hr) : xa_W E M Z kc ks pc ls (va_rf o :: st) L hi hr := by
  cases o with
  | none => exact xa_ifnonnull_null hd (kf rfl)
  | some a => exact xa_ifnonnull_ref tgt hd ht (kt a rfl)
theorem xa_maps {dA : Nat → ClassId} {al : Nat → Nat} {A : Nat → Prop} (hD : va_D A (xa_wd dA al L hi hr)) {rx ry : Option Nat} (hx : ∀ a, rx = some a → a ∈ L) (hy : ∀ a, ry = some a → a ∈ L) : rx.map al = ry.map al ↔ rx = ry := by
  constructor
  · intro h
    cases rx with
    | none => cases ry with
      | none => rfl
      | some b => simp at h
    | some a => cases ry with
      | none => simp at h
      | some b => rw [xa_inj hD (hx a rfl) (hy b rfl) (by simpa using h)]
  · intro h; rw [h]
theorem xa_acmp_eq {rx ry : Option Nat} {off : Int} (tgt : Nat) (hd : decode M.2.1 pc = .ok (.if_acmp .eq off, 3)) (ht : (pc : Int) + off = (tgt : Int)) (hx : ∀ a, rx = some a → a ∈ L) (hy : ∀ a, ry = some a → a ∈ L) (kt : rx = ry → xa_W E M Z kc ks tgt ls st L hi hr) (kf : ¬ rx = ry → xa_W E M Z kc ks (pc + 3) ls st L hi hr) : xa_W E M Z kc ks pc ls (va_rf ry :: va_rf rx :: st) L hi hr := by
  intro p e s m args below meth c al0 al H locs cells slots lm C hN hP hD hS hl hc hs
  have hm := xa_maps hD hx hy
  show W p E.1 e M.2.2.2.2 s m args below meth c H locs cells slots (Z.1 s args below al0) (F0 m pc lm (xa_cv al (va_rf ry) :: xa_cv al (va_rf rx) :: st.map (xa_cv al)))
  rw [xa_cv_rf, xa_cv_rf]
  exact lv_acmp_eq C.1 C.2.1 hd ht (fun h => kt (by rw [← hm]; exact h) p e s m args below meth c al0 al H locs cells slots lm C hN hP hD hS hl hc hs) (fun h => kf (by rw [← hm]; exact h) p e s m args below meth c al0 al H locs cells slots lm C hN hP hD hS hl hc hs)
theorem xa_acmp_ne {rx ry : Option Nat} {off : Int} (tgt : Nat) (hd : decode M.2.1 pc = .ok (.if_acmp .ne off, 3)) (ht : (pc : Int) + off = (tgt : Int)) (hx : ∀ a, rx = some a → a ∈ L) (hy : ∀ a, ry = some a → a ∈ L) (kt : ¬ rx = ry → xa_W E M Z kc ks tgt ls st L hi hr) (kf : rx = ry → xa_W E M Z kc ks (pc + 3) ls st L hi hr) : xa_W E M Z kc ks pc ls (va_rf ry :: va_rf rx :: st) L hi hr := by
  intro p e s m args below meth c al0 al H locs cells slots lm C hN hP hD hS hl hc hs
  have hm := xa_maps hD hx hy
  show W p E.1 e M.2.2.2.2 s m args below meth c H locs cells slots (Z.1 s args below al0) (F0 m pc lm (xa_cv al (va_rf ry) :: xa_cv al (va_rf rx) :: st.map (xa_cv al)))
  rw [xa_cv_rf, xa_cv_rf]
  exact lv_acmp_ne C.1 C.2.1 hd ht (fun h => kt (by rw [← hm]; exact h) p e s m args below meth c al0 al H locs cells slots lm C hN hP hD hS hl hc hs) (fun h => kf (by rw [← hm]; exact h) p e s m args below meth c al0 al H locs cells slots lm C hN hP hD hS hl hc hs)
theorem xa_iload_n {k : Fin 4} {x : Int32} (hd : decode M.2.1 pc = .ok (.iload_n k, 1)) (hv : ls[(k : Nat)]? = some (some (.int x))) (kk : xa_W E M Z kc ks (pc + 1) ls (.int x :: st) L hi hr) : xa_W E M Z kc ks pc ls st L hi hr := by
  intro p e s m args below meth c al0 al H locs cells slots lm C hN hP hD hS hl hc hs
  obtain ⟨lv, h1, h2, h3⟩ := id hl
  exact lv_iload_n C.1 C.2.1 hd rfl (h1.2.2 _ (h3 _ _ hv)) (kk p e s m args below meth c al0 al H locs cells slots lm C hN hP hD hS hl hc hs)
theorem xa_iload {i : Nat} {x : Int32} (hd : decode M.2.1 pc = .ok (.iload i, 2)) (hv : ls[i]? = some (some (.int x))) (kk : xa_W E M Z kc ks (pc + 2) ls (.int x :: st) L hi hr) : xa_W E M Z kc ks pc ls st L hi hr := by
  intro p e s m args below meth c al0 al H locs cells slots lm C hN hP hD hS hl hc hs
  obtain ⟨lv, h1, h2, h3⟩ := id hl
  exact lv_iload C.1 C.2.1 hd (h1.2.2 _ (h3 _ _ hv)) (kk p e s m args below meth c al0 al H locs cells slots lm C hN hP hD hS hl hc hs)
theorem xa_aload_n {k : Fin 4} {x : Nat} (hd : decode M.2.1 pc = .ok (.aload_n k, 1)) (hv : ls[(k : Nat)]? = some (some (.ref x))) (kk : xa_W E M Z kc ks (pc + 1) ls (.ref x :: st) L hi hr) : xa_W E M Z kc ks pc ls st L hi hr := by
  intro p e s m args below meth c al0 al H locs cells slots lm C hN hP hD hS hl hc hs
  obtain ⟨lv, h1, h2, h3⟩ := id hl
  exact lv_aload_n C.1 C.2.1 hd rfl (h1.2.2 _ (h3 _ _ hv)) (kk p e s m args below meth c al0 al H locs cells slots lm C hN hP hD hS hl hc hs)
theorem xa_aload {i : Nat} {x : Nat} (hd : decode M.2.1 pc = .ok (.aload i, 2)) (hv : ls[i]? = some (some (.ref x))) (kk : xa_W E M Z kc ks (pc + 2) ls (.ref x :: st) L hi hr) : xa_W E M Z kc ks pc ls st L hi hr := by
  intro p e s m args below meth c al0 al H locs cells slots lm C hN hP hD hS hl hc hs
  obtain ⟨lv, h1, h2, h3⟩ := id hl
  exact lv_aload C.1 C.2.1 hd (h1.2.2 _ (h3 _ _ hv)) (kk p e s m args below meth c al0 al H locs cells slots lm C hN hP hD hS hl hc hs)
theorem xa_aload_nN {k : Fin 4} (hd : decode M.2.1 pc = .ok (.aload_n k, 1)) (hv : ls[(k : Nat)]? = some (some (.null))) (kk : xa_W E M Z kc ks (pc + 1) ls (.null :: st) L hi hr) : xa_W E M Z kc ks pc ls st L hi hr := by
  intro p e s m args below meth c al0 al H locs cells slots lm C hN hP hD hS hl hc hs
  obtain ⟨lv, h1, h2, h3⟩ := id hl
  exact lv_aload_nN C.1 C.2.1 hd rfl (h1.2.2 _ (h3 _ _ hv)) (kk p e s m args below meth c al0 al H locs cells slots lm C hN hP hD hS hl hc hs)
theorem xa_aloadN {i : Nat} (hd : decode M.2.1 pc = .ok (.aload i, 2)) (hv : ls[i]? = some (some (.null))) (kk : xa_W E M Z kc ks (pc + 2) ls (.null :: st) L hi hr) : xa_W E M Z kc ks pc ls st L hi hr := by
  intro p e s m args below meth c al0 al H locs cells slots lm C hN hP hD hS hl hc hs
  obtain ⟨lv, h1, h2, h3⟩ := id hl
  exact lv_aloadN C.1 C.2.1 hd (h1.2.2 _ (h3 _ _ hv)) (kk p e s m args below meth c al0 al H locs cells slots lm C hN hP hD hS hl hc hs)
theorem xa_istore_n {k : Fin 4} {x : Int32} (hd : decode M.2.1 pc = .ok (.istore_n k, 1)) (hn : (k : Nat) < M.2.2.1) (kk : xa_W E M Z kc ks (pc + 1) (ls.set (k : Nat) (some (.int x))) st L hi hr) : xa_W E M Z kc ks pc ls (.int x :: st) L hi hr := by
  intro p e s m args below meth c al0 al H locs cells slots lm C hN hP hD hS hl hc hs
  obtain ⟨lv, h1, h2, h3⟩ := id hl
  exact lv_istore_n C.1 C.2.1 hd rfl h1 hn rfl (fun lm' h' => kk p e s m args below meth c al0 al H locs cells slots lm' C hN hP hD hS (xa_lv_st (v := .int x) h2 h3 rfl h') hc hs)
theorem xa_istore {i : Nat} {x : Int32} (hd : decode M.2.1 pc = .ok (.istore i, 2)) (hn : i < M.2.2.1) (kk : xa_W E M Z kc ks (pc + 2) (ls.set i (some (.int x))) st L hi hr) : xa_W E M Z kc ks pc ls (.int x :: st) L hi hr := by
  intro p e s m args below meth c al0 al H locs cells slots lm C hN hP hD hS hl hc hs
  obtain ⟨lv, h1, h2, h3⟩ := id hl
  exact lv_istore C.1 C.2.1 hd h1 hn rfl (fun lm' h' => kk p e s m args below meth c al0 al H locs cells slots lm' C hN hP hD hS (xa_lv_st (v := .int x) h2 h3 rfl h') hc hs)
theorem xa_astore_n {k : Fin 4} {x : Nat} (hd : decode M.2.1 pc = .ok (.astore_n k, 1)) (hn : (k : Nat) < M.2.2.1) (kk : xa_W E M Z kc ks (pc + 1) (ls.set (k : Nat) (some (.ref x))) st L hi hr) : xa_W E M Z kc ks pc ls (.ref x :: st) L hi hr := by
  intro p e s m args below meth c al0 al H locs cells slots lm C hN hP hD hS hl hc hs
  obtain ⟨lv, h1, h2, h3⟩ := id hl
  exact lv_astore_n C.1 C.2.1 hd rfl h1 hn rfl (fun lm' h' => kk p e s m args below meth c al0 al H locs cells slots lm' C hN hP hD hS (xa_lv_st (v := .ref x) h2 h3 rfl h') hc hs)
theorem xa_astore {i : Nat} {x : Nat} (hd : decode M.2.1 pc = .ok (.astore i, 2)) (hn : i < M.2.2.1) (kk : xa_W E M Z kc ks (pc + 2) (ls.set i (some (.ref x))) st L hi hr) : xa_W E M Z kc ks pc ls (.ref x :: st) L hi hr := by
  intro p e s m args below meth c al0 al H locs cells slots lm C hN hP hD hS hl hc hs
  obtain ⟨lv, h1, h2, h3⟩ := id hl
  exact lv_astore C.1 C.2.1 hd h1 hn rfl (fun lm' h' => kk p e s m args below meth c al0 al H locs cells slots lm' C hN hP hD hS (xa_lv_st (v := .ref x) h2 h3 rfl h') hc hs)
theorem xa_astore_nN {k : Fin 4} (hd : decode M.2.1 pc = .ok (.astore_n k, 1)) (hn : (k : Nat) < M.2.2.1) (kk : xa_W E M Z kc ks (pc + 1) (ls.set (k : Nat) (some (.null))) st L hi hr) : xa_W E M Z kc ks pc ls (.null :: st) L hi hr := by
  intro p e s m args below meth c al0 al H locs cells slots lm C hN hP hD hS hl hc hs
  obtain ⟨lv, h1, h2, h3⟩ := id hl
  exact lv_astore_nN C.1 C.2.1 hd rfl h1 hn rfl (fun lm' h' => kk p e s m args below meth c al0 al H locs cells slots lm' C hN hP hD hS (xa_lv_st (v := .null) h2 h3 rfl h') hc hs)
theorem xa_astoreN {i : Nat} (hd : decode M.2.1 pc = .ok (.astore i, 2)) (hn : i < M.2.2.1) (kk : xa_W E M Z kc ks (pc + 2) (ls.set i (some (.null))) st L hi hr) : xa_W E M Z kc ks pc ls (.null :: st) L hi hr := by
  intro p e s m args below meth c al0 al H locs cells slots lm C hN hP hD hS hl hc hs
  obtain ⟨lv, h1, h2, h3⟩ := id hl
  exact lv_astoreN C.1 C.2.1 hd h1 hn rfl (fun lm' h' => kk p e s m args below meth c al0 al H locs cells slots lm' C hN hP hD hS (xa_lv_st (v := .null) h2 h3 rfl h') hc hs)
theorem xa_iinc {i : Nat} {n : Int} {x : Int32} {v : Int32} (hd : decode M.2.1 pc = .ok (.iinc i n, 3)) (hv : ls[i]? = some (some (.int x))) (hn : i < M.2.2.1) (he : x + Int32.ofInt n = v) (kk : xa_W E M Z kc ks (pc + 3) (ls.set i (some (.int v))) st L hi hr) : xa_W E M Z kc ks pc ls st L hi hr := by
  intro p e s m args below meth c al0 al H locs cells slots lm C hN hP hD hS hl hc hs
  obtain ⟨lv, h1, h2, h3⟩ := id hl
  obtain ⟨q, hq⟩ := List.getElem?_of_mem (h3 _ _ hv)
  exact lv_iinc C.1 C.2.1 hd h1 (k := q) hq he hn rfl (fun lm' h' => kk p e s m args below meth c al0 al H locs cells slots lm' C hN hP hD hS (xa_lv_st (v := .int v) h2 h3 rfl h') hc hs)
theorem xa_ldc {i : Nat} {v : Int32} (hd : decode M.2.1 pc = .ok (.ldc i, 2)) (hw : Cond.constant M.1.cls i v ∈ xa_G) (k : xa_W E M Z kc ks (pc + 2) ls (.int v :: st) L hi hr) : xa_W E M Z kc ks pc ls st L hi hr := by
  intro p e s m args below meth c al0 al H locs cells slots lm C hN hP hD hS hl hc hs
  exact lv_ldc C.1 C.2.1 C.2.2.2.2.1 (C.2.2.2.2.2.1 _ hw) hd (k p e s m args below meth c al0 al H locs cells slots lm C hN hP hD hS hl hc hs)
theorem xa_ldcw {i : Nat} {v : Int32} (hd : decode M.2.1 pc = .ok (.ldc_w i, 3)) (hw : Cond.constant M.1.cls i v ∈ xa_G) (k : xa_W E M Z kc ks (pc + 3) ls (.int v :: st) L hi hr) : xa_W E M Z kc ks pc ls st L hi hr := by
  intro p e s m args below meth c al0 al H locs cells slots lm C hN hP hD hS hl hc hs
  exact lv_ldcw C.1 C.2.1 C.2.2.2.2.1 (C.2.2.2.2.2.1 _ hw) hd (k p e s m args below meth c al0 al H locs cells slots lm C hN hP hD hS hl hc hs)
theorem xa_tableIn {dflt lo hj : Int} {offs : Array Int} {len : Nat} {x : Int32} {off : Int} (tgt : Nat) (hd : decode M.2.1 pc = .ok (.tableswitch dflt lo hj offs, len)) (h1 : ¬ x.toInt < lo) (h2 : ¬ hj < x.toInt) (ho : offs[(x.toInt - lo).toNat]? = some off) (ht : (pc : Int) + off = (tgt : Int)) (k : xa_W E M Z kc ks tgt ls st L hi hr) : xa_W E M Z kc ks pc ls (.int x :: st) L hi hr := by
  intro p e s m args below meth c al0 al H locs cells slots lm C hN hP hD hS hl hc hs
  exact lv_tableIn C.1 C.2.1 hd h1 h2 ho ht (k p e s m args below meth c al0 al H locs cells slots lm C hN hP hD hS hl hc hs)
theorem xa_tableOut {dflt lo hj : Int} {offs : Array Int} {len : Nat} {x : Int32} (tgt : Nat) (hd : decode M.2.1 pc = .ok (.tableswitch dflt lo hj offs, len)) (h : x.toInt < lo ∨ hj < x.toInt) (ht : (pc : Int) + dflt = (tgt : Int)) (k : xa_W E M Z kc ks tgt ls st L hi hr) : xa_W E M Z kc ks pc ls (.int x :: st) L hi hr := by
  intro p e s m args below meth c al0 al H locs cells slots lm C hN hP hD hS hl hc hs
  exact lv_tableOut C.1 C.2.1 hd h ht (k p e s m args below meth c al0 al H locs cells slots lm C hN hP hD hS hl hc hs)
theorem xa_fv {al : Nat → Nat} {a ci N kf : Nat} (hN : N = xa_nT.getD ci 0) (hf : kf < N) (v : Value) (hv : xa_sv al hi hr a kf = v) : ((List.range (xa_nT.getD ci 0)).map (xa_sv al hi hr a))[kf]? = some v := by
  rw [← hN]
  simp [hf, hv]
theorem xa_getI {a idx : Nat} (ci kf : Nat) (hF : xa_FL M.1.cls idx ci kf) (hd : decode M.2.1 pc = .ok (.getfield idx, 3)) (ha : a ∈ L) (hk : xa_kd a = ci) (hr0 : xa_isR ci kf = false) (k : xa_W E M Z kc ks (pc + 3) ls (.int (hi a kf) :: st) L hi hr) : xa_W E M Z kc ks pc ls (.ref a :: st) L hi hr := by
  intro p e s m args below meth c al0 al H locs cells slots lm C hN hP hD hS hl hc hs
  obtain ⟨Cn, T, N, h1, h2, h3, h4, h5⟩ := hF
  obtain ⟨q0, hq, hw⟩ := xa_get? (dA := E.2.2) (al := al) (hi := hi) (hr := hr) ha
  rw [xa_en_o hk (xa_ci h1)] at hw
  exact va_get C.1 C.2.1 (Ts := xa_G) C.2.2.2.2.2.1 h3 C.2.2.2.2.1 C.2.2.2.2.2.2.2.2.1.1 hP q0 hw h1 kf h4 (C.2.2.2.2.2.1 _ h5) (fun _ h => h) (xa_fv h2 h4 (.int (hi a kf)) (by simp [xa_sv, hk, hr0])) hd (k p e s m args below meth c al0 al H locs cells slots lm C hN hP hD hS hl hc hs)
theorem xa_getR {a idx : Nat} (ci kf : Nat) (o : Option Nat) (hF : xa_FL M.1.cls idx ci kf) (hd : decode M.2.1 pc = .ok (.getfield idx, 3)) (ha : a ∈ L) (hk : xa_kd a = ci) (hr0 : xa_isR ci kf = true) (ho : hr a kf = o) (k : xa_W E M Z kc ks (pc + 3) ls (va_rf o :: st) L hi hr) : xa_W E M Z kc ks pc ls (.ref a :: st) L hi hr := by
  intro p e s m args below meth c al0 al H locs cells slots lm C hN hP hD hS hl hc hs
  obtain ⟨Cn, T, N, h1, h2, h3, h4, h5⟩ := hF
  obtain ⟨q0, hq, hw⟩ := xa_get? (dA := E.2.2) (al := al) (hi := hi) (hr := hr) ha
  rw [xa_en_o hk (xa_ci h1)] at hw
  have k2 := k p e s m args below meth c al0 al H locs cells slots lm C hN hP hD hS hl hc hs
  have e : (va_rf o :: st).map (xa_cv al) = va_rf (o.map al) :: st.map (xa_cv al) := by rw [List.map_cons, xa_cv_rf]
  rw [e] at k2
  exact va_get C.1 C.2.1 (Ts := xa_G) C.2.2.2.2.2.1 h3 C.2.2.2.2.1 C.2.2.2.2.2.2.2.2.1.1 hP q0 hw h1 kf h4 (C.2.2.2.2.2.1 _ h5) (fun _ h => h) (xa_fv h2 h4 (va_rf (o.map al)) (by simp [xa_sv, hk, hr0, ho])) hd k2
theorem xa_up_self (h : xa_AH) (a k : Nat) (v : Int32) : xa_up h a k v a k = v := by simp [xa_up]
theorem xa_sv_up {al : Nat → Nat} {a ci kf : Nat} {v : Int32} (hk : xa_kd a = ci) (hr0 : xa_isR ci kf = false) : xa_sv al (xa_up hi a kf v) hr a kf = .int v := by simp [xa_sv, hk, hr0, xa_up]
theorem xa_sv_upn {al : Nat → Nat} {a kf j : Nat} {v : Int32} (h : j ≠ kf) : xa_sv al (xa_up hi a kf v) hr a j = xa_sv al hi hr a j := by simp [xa_sv, xa_up, h]
theorem xa_sv_upr {al : Nat → Nat} {a ci kf : Nat} {v : Option Nat} (hk : xa_kd a = ci) (hr0 : xa_isR ci kf = true) : xa_sv al hi (xa_upr hr a kf v) a kf = va_rf (v.map al) := by simp [xa_sv, hk, hr0, xa_upr]
theorem xa_sv_uprn {al : Nat → Nat} {a kf j : Nat} {v : Option Nat} (h : j ≠ kf) : xa_sv al hi (xa_upr hr a kf v) a j = xa_sv al hi hr a j := by simp [xa_sv, xa_upr, h]
theorem xa_putI {a idx : Nat} {ty : FieldType} {x : Int32} (ci kf : Nat) (hF : xa_FP M.1.cls idx ci kf ty) (hd : decode M.2.1 pc = .ok (.putfield idx, 3)) (ha : a ∈ L) (hk : xa_kd a = ci) (hr0 : xa_isR ci kf = false) (hn : narrow ty (.int x) = .int x) (hfit : fits ty (.int x) = true) (k : xa_W E M Z kc ks (pc + 3) ls st L (xa_up hi a kf x) hr) : xa_W E M Z kc ks pc ls (.int x :: .ref a :: st) L hi hr := by
  intro p e s m args below meth c al0 al H locs cells slots lm C hN hP hD hS hl hc hs
  obtain ⟨Cn, T, N, ty0, h1, h2, h3, h4, h5, h6, h7, h8, h9⟩ := hF
  obtain ⟨q0, hq, hw⟩ := xa_get? (dA := E.2.2) (al := al) (hi := hi) (hr := hr) ha
  rw [xa_en_o hk (xa_ci h1)] at hw
  refine va_put (v := .int x) C.1 C.2.1 (Ts := xa_G) C.2.2.2.2.2.1 h3 ty0 h6 h7 C.2.2.2.2.1 C.2.2.2.2.2.2.2.2.1.1 hP hD hS q0 hw h1 kf h4 (C.2.2.2.2.2.1 _ h5) (fun _ h => h) h8 h9 hn hfit (by rw [List.length_map, List.length_range, ← h2]; exact h4) hd (fun H1 locs1 hP1 hD1 hS1 => ?_)
  have e9 : (xa_wd E.2.2 al L hi hr).set q0 (al a, .inr (ci, ((List.range (xa_nT.getD ci 0)).map (xa_sv al hi hr a)).set kf (.int x))) = xa_wd E.2.2 al L (xa_up hi a kf x) hr := by
    refine xa_setw hD hq (fun b hb => xa_en_up b hb) ?_
    rw [xa_en_o hk (xa_ci h1), xa_rng_set (by rw [← h2]; exact h4) _ (xa_sv al (xa_up hi a kf x) hr a) _ (xa_sv_up hk hr0) (fun j hj => xa_sv_upn hj)]
  rw [e9] at hP1 hD1
  exact k p e s m args below meth c al0 al H1 locs1 cells slots lm C hN hP1 hD1 hS1 hl hc hs
theorem xa_putR {a idx : Nat} {ty : FieldType} (o : Option Nat) (ci kf : Nat) (hF : xa_FP M.1.cls idx ci kf ty) (hd : decode M.2.1 pc = .ok (.putfield idx, 3)) (ha : a ∈ L) (hk : xa_kd a = ci) (hr0 : xa_isR ci kf = true) (hn : ∀ o : Option Nat, narrow ty (va_rf o) = va_rf o) (hfit : ∀ o : Option Nat, fits ty (va_rf o) = true) (k : xa_W E M Z kc ks (pc + 3) ls st L hi (xa_upr hr a kf o)) : xa_W E M Z kc ks pc ls (va_rf o :: .ref a :: st) L hi hr := by
  intro p e s m args below meth c al0 al H locs cells slots lm C hN hP hD hS hl hc hs
  obtain ⟨Cn, T, N, ty0, h1, h2, h3, h4, h5, h6, h7, h8, h9⟩ := hF
  obtain ⟨q0, hq, hw⟩ := xa_get? (dA := E.2.2) (al := al) (hi := hi) (hr := hr) ha
  rw [xa_en_o hk (xa_ci h1)] at hw
  show W p E.1 e M.2.2.2.2 s m args below meth c H locs cells slots (Z.1 s args below al0) (F0 m pc lm (xa_cv al (va_rf o) :: .ref (al a) :: st.map (xa_cv al)))
  rw [xa_cv_rf]
  refine va_put C.1 C.2.1 (Ts := xa_G) C.2.2.2.2.2.1 h3 ty0 h6 h7 C.2.2.2.2.1 C.2.2.2.2.2.2.2.2.1.1 hP hD hS q0 hw h1 kf h4 (C.2.2.2.2.2.1 _ h5) (fun _ h => h) h8 h9 (hn _) (hfit _) (by rw [List.length_map, List.length_range, ← h2]; exact h4) hd (fun H1 locs1 hP1 hD1 hS1 => ?_)
  have e9 : (xa_wd E.2.2 al L hi hr).set q0 (al a, .inr (ci, ((List.range (xa_nT.getD ci 0)).map (xa_sv al hi hr a)).set kf (va_rf (o.map al)))) = xa_wd E.2.2 al L hi (xa_upr hr a kf o) := by
    refine xa_setw hD hq (fun b hb => xa_en_upr b hb) ?_
    rw [xa_en_o hk (xa_ci h1), xa_rng_set (by rw [← h2]; exact h4) _ (xa_sv al hi (xa_upr hr a kf o) a) _ (xa_sv_upr hk hr0) (fun j hj => xa_sv_uprn hj)]
  rw [e9] at hP1 hD1
  exact k p e s m args below meth c al0 al H1 locs1 cells slots lm C hN hP1 hD1 hS1 hl hc hs
theorem xa_putIF {a idx : Nat} {ty : FieldType} {x : Int32} (ci kf : Nat) (hF : xa_FF M.1.cls idx ci kf ty) (hd : decode M.2.1 pc = .ok (.putfield idx, 3)) (hini : M.1.name = "<init>") (ha : a ∈ L) (hk : xa_kd a = ci) (hr0 : xa_isR ci kf = false) (hn : narrow ty (.int x) = .int x) (hfit : fits ty (.int x) = true) (k : xa_W E M Z kc ks (pc + 3) ls st L (xa_up hi a kf x) hr) : xa_W E M Z kc ks pc ls (.int x :: .ref a :: st) L hi hr := by
  intro p e s m args below meth c al0 al H locs cells slots lm C hN hP hD hS hl hc hs
  obtain ⟨Cn, T, N, ty0, h1, h2, h3, h4, h5, h6, h7, h8, h9, h10⟩ := hF
  obtain ⟨q0, hq, hw⟩ := xa_get? (dA := E.2.2) (al := al) (hi := hi) (hr := hr) ha
  rw [xa_en_o hk (xa_ci h1)] at hw
  refine va_putF (v := .int x) C.1 C.2.1 (Ts := xa_G) C.2.2.2.2.2.1 h3 ty0 h6 h7 C.2.2.2.2.1 C.2.2.2.2.2.2.2.2.1.1 hP hD hS q0 hw h1 kf h4 (C.2.2.2.2.2.1 _ h5) (fun _ h => h) h8 (C.2.2.2.2.2.2.2.1.trans hini) h9 h10 hn hfit (by rw [List.length_map, List.length_range, ← h2]; exact h4) hd (fun H1 locs1 hP1 hD1 hS1 => ?_)
  have e9 : (xa_wd E.2.2 al L hi hr).set q0 (al a, .inr (ci, ((List.range (xa_nT.getD ci 0)).map (xa_sv al hi hr a)).set kf (.int x))) = xa_wd E.2.2 al L (xa_up hi a kf x) hr := by
    refine xa_setw hD hq (fun b hb => xa_en_up b hb) ?_
    rw [xa_en_o hk (xa_ci h1), xa_rng_set (by rw [← h2]; exact h4) _ (xa_sv al (xa_up hi a kf x) hr a) _ (xa_sv_up hk hr0) (fun j hj => xa_sv_upn hj)]
  rw [e9] at hP1 hD1
  exact k p e s m args below meth c al0 al H1 locs1 cells slots lm C hN hP1 hD1 hS1 hl hc hs
theorem xa_putRF {a idx : Nat} {ty : FieldType} (o : Option Nat) (ci kf : Nat) (hF : xa_FF M.1.cls idx ci kf ty) (hd : decode M.2.1 pc = .ok (.putfield idx, 3)) (hini : M.1.name = "<init>") (ha : a ∈ L) (hk : xa_kd a = ci) (hr0 : xa_isR ci kf = true) (hn : ∀ o : Option Nat, narrow ty (va_rf o) = va_rf o) (hfit : ∀ o : Option Nat, fits ty (va_rf o) = true) (k : xa_W E M Z kc ks (pc + 3) ls st L hi (xa_upr hr a kf o)) : xa_W E M Z kc ks pc ls (va_rf o :: .ref a :: st) L hi hr := by
  intro p e s m args below meth c al0 al H locs cells slots lm C hN hP hD hS hl hc hs
  obtain ⟨Cn, T, N, ty0, h1, h2, h3, h4, h5, h6, h7, h8, h9, h10⟩ := hF
  obtain ⟨q0, hq, hw⟩ := xa_get? (dA := E.2.2) (al := al) (hi := hi) (hr := hr) ha
  rw [xa_en_o hk (xa_ci h1)] at hw
  show W p E.1 e M.2.2.2.2 s m args below meth c H locs cells slots (Z.1 s args below al0) (F0 m pc lm (xa_cv al (va_rf o) :: .ref (al a) :: st.map (xa_cv al)))
  rw [xa_cv_rf]
  refine va_putF C.1 C.2.1 (Ts := xa_G) C.2.2.2.2.2.1 h3 ty0 h6 h7 C.2.2.2.2.1 C.2.2.2.2.2.2.2.2.1.1 hP hD hS q0 hw h1 kf h4 (C.2.2.2.2.2.1 _ h5) (fun _ h => h) h8 (C.2.2.2.2.2.2.2.1.trans hini) h9 h10 (hn _) (hfit _) (by rw [List.length_map, List.length_range, ← h2]; exact h4) hd (fun H1 locs1 hP1 hD1 hS1 => ?_)
  have e9 : (xa_wd E.2.2 al L hi hr).set q0 (al a, .inr (ci, ((List.range (xa_nT.getD ci 0)).map (xa_sv al hi hr a)).set kf (va_rf (o.map al)))) = xa_wd E.2.2 al L hi (xa_upr hr a kf o) := by
    refine xa_setw hD hq (fun b hb => xa_en_upr b hb) ?_
    rw [xa_en_o hk (xa_ci h1), xa_rng_set (by rw [← h2]; exact h4) _ (xa_sv al hi (xa_upr hr a kf o) a) _ (xa_sv_upr hk hr0) (fun j hj => xa_sv_uprn hj)]
  rw [e9] at hP1 hD1
  exact k p e s m args below meth c al0 al H1 locs1 cells slots lm C hN hP1 hD1 hS1 hl hc hs
theorem xa_iald {a : Nat} {i : Int32} (hd : decode M.2.1 pc = .ok (.iaload, 1)) (ha : a ∈ L) (hk : xa_kd a = 9) (hin : vp_in i (xa_ln a)) (k : xa_W E M Z kc ks (pc + 1) ls (.int (hi a i.toNatClampNeg) :: st) L hi hr) : xa_W E M Z kc ks pc ls (.int i :: .ref a :: st) L hi hr := by
  intro p e s m args below meth c al0 al H locs cells slots lm C hN hP hD hS hl hc hs
  obtain ⟨q0, hq, hw⟩ := xa_get? (dA := E.2.2) (al := al) (hi := hi) (hr := hr) ha
  rw [xa_en_i hk] at hw
  exact va_iald C.1 C.2.1 C.2.2.2.2.2.2.2.2.1.1 hP q0 0 hw rfl hin hd (k p e s m args below meth c al0 al H locs cells slots lm C hN hP hD hS hl hc hs)
theorem xa_zald {a : Nat} {i : Int32} (hd : decode M.2.1 pc = .ok (.baload, 1)) (ha : a ∈ L) (hk : xa_kd a = 10) (hin : vp_in i (xa_ln a)) (k : xa_W E M Z kc ks (pc + 1) ls (.int (hi a i.toNatClampNeg) :: st) L hi hr) : xa_W E M Z kc ks pc ls (.int i :: .ref a :: st) L hi hr := by
  intro p e s m args below meth c al0 al H locs cells slots lm C hN hP hD hS hl hc hs
  obtain ⟨q0, hq, hw⟩ := xa_get? (dA := E.2.2) (al := al) (hi := hi) (hr := hr) ha
  rw [xa_en_z hk] at hw
  exact va_zald C.1 C.2.1 C.2.2.2.2.2.2.2.2.1.1 hP q0 1 hw rfl hin hd (k p e s m args below meth c al0 al H locs cells slots lm C hN hP hD hS hl hc hs)
theorem xa_up_arr (a j : Nat) (x : Int32) : xa_up hi a j x a = upd (hi a) j x := by
  funext y; simp [xa_up, upd]
theorem xa_iast {a : Nat} {i x : Int32} (hd : decode M.2.1 pc = .ok (.iastore, 1)) (ha : a ∈ L) (hk : xa_kd a = 9) (hin : vp_in i (xa_ln a)) (k : xa_W E M Z kc ks (pc + 1) ls st L (xa_up hi a i.toNatClampNeg x) hr) : xa_W E M Z kc ks pc ls (.int x :: .int i :: .ref a :: st) L hi hr := by
  intro p e s m args below meth c al0 al H locs cells slots lm C hN hP hD hS hl hc hs
  obtain ⟨q0, hq, hw⟩ := xa_get? (dA := E.2.2) (al := al) (hi := hi) (hr := hr) ha
  rw [xa_en_i hk] at hw
  refine va_iast C.1 C.2.1 C.2.2.2.2.2.2.2.2.1.1 hP hD hS q0 0 hw rfl hin hd (fun H1 locs1 hP1 hD1 hS1 => ?_)
  rw [xa_setw (hi' := xa_up hi a i.toNatClampNeg x) (hr' := hr) hD hq (fun b hb => xa_en_up b hb) (by rw [xa_en_i hk, xa_up_arr])] at hP1 hD1
  exact k p e s m args below meth c al0 al H1 locs1 cells slots lm C hN hP1 hD1 hS1 hl hc hs
theorem xa_zast {a : Nat} {i x : Int32} (hd : decode M.2.1 pc = .ok (.bastore, 1)) (ha : a ∈ L) (hk : xa_kd a = 10) (hin : vp_in i (xa_ln a)) (hx : vp_nar .boolean x = x) (k : xa_W E M Z kc ks (pc + 1) ls st L (xa_up hi a i.toNatClampNeg x) hr) : xa_W E M Z kc ks pc ls (.int x :: .int i :: .ref a :: st) L hi hr := by
  intro p e s m args below meth c al0 al H locs cells slots lm C hN hP hD hS hl hc hs
  obtain ⟨q0, hq, hw⟩ := xa_get? (dA := E.2.2) (al := al) (hi := hi) (hr := hr) ha
  rw [xa_en_z hk] at hw
  refine va_zast C.1 C.2.1 C.2.2.2.2.2.2.2.2.1.1 hP hD hS q0 1 hw rfl hin hd (fun H1 locs1 hP1 hD1 hS1 => ?_)
  rw [hx, xa_setw (hi' := xa_up hi a i.toNatClampNeg x) (hr' := hr) hD hq (fun b hb => xa_en_up b hb) (by rw [xa_en_z hk, xa_up_arr])] at hP1 hD1
  exact k p e s m args below meth c al0 al H1 locs1 cells slots lm C hN hP1 hD1 hS1 hl hc hs
theorem xa_aald_h {a : Nat} {i : Int32} (o : Option Nat) (hd : decode M.2.1 pc = .ok (.aaload, 1)) (ha : a ∈ L) (hk : xa_kd a = 11) (hin : vp_in i (xa_ln a)) (ho : hr a i.toNatClampNeg = o) (k : xa_W E M Z kc ks (pc + 1) ls (va_rf o :: st) L hi hr) : xa_W E M Z kc ks pc ls (.int i :: .ref a :: st) L hi hr := by
  intro p e s m args below meth c al0 al H locs cells slots lm C hN hP hD hS hl hc hs
  obtain ⟨q0, hq, hw⟩ := xa_get? (dA := E.2.2) (al := al) (hi := hi) (hr := hr) ha
  rw [xa_en_r hk (by decide)] at hw
  have k2 := k p e s m args below meth c al0 al H locs cells slots lm C hN hP hD hS hl hc hs
  have e : (va_rf o :: st).map (xa_cv al) = va_rf ((hr a i.toNatClampNeg).map al) :: st.map (xa_cv al) := by rw [List.map_cons, xa_cv_rf, ho]
  rw [e] at k2
  exact va_aldq C.1 C.2.1 C.2.2.2.2.2.2.2.2.1.1 hP q0 2 hw rfl hin hd k2
theorem xa_aast_h {a b : Nat} {i : Int32} (hd : decode M.2.1 pc = .ok (.aastore, 1)) (ha : a ∈ L) (hk : xa_kd a = 11) (hb : b ∈ L) (hkb : xa_kd b = 3) (hin : vp_in i (xa_ln a)) (k : xa_W E M Z kc ks (pc + 1) ls st L hi (xa_upr hr a i.toNatClampNeg (some b))) : xa_W E M Z kc ks pc ls (.ref b :: .int i :: .ref a :: st) L hi hr := by
  intro p e s m args below meth c al0 al H locs cells slots lm C hN hP hD hS hl hc hs
  obtain ⟨q0, hq, hw⟩ := xa_get? (dA := E.2.2) (al := al) (hi := hi) (hr := hr) ha
  rw [xa_en_r hk (by decide)] at hw
  obtain ⟨q1, hq1, hw1⟩ := xa_get? (dA := E.2.2) (al := al) (hi := hi) (hr := hr) hb
  rw [xa_en_o hkb (by decide)] at hw1
  refine va_astq C.1 C.2.1 C.2.2.2.2.2.2.2.2.1.1 hP hD hS q0 2 q1 3 hw rfl hw1 rfl hin hd (fun H1 locs1 hP1 hD1 hS1 => ?_)
  have e0 : (fun j => ((xa_upr hr a i.toNatClampNeg (some b)) a j).map al) = va_up (fun j => (hr a j).map al) i.toNatClampNeg (some (al b)) := by
    funext j
    by_cases hj : j = i.toNatClampNeg
    · subst hj; simp [xa_upr, va_up]
    · simp [xa_upr, va_up, hj]
  rw [xa_setw (hi' := hi) (hr' := xa_upr hr a i.toNatClampNeg (some b)) hD hq (fun b hb => xa_en_upr b hb) (by rw [xa_en_r hk (by decide), e0])] at hP1 hD1
  exact k p e s m args below meth c al0 al H1 locs1 cells slots lm C hN hP1 hD1 hS1 hl hc hs
theorem xa_aald_s {a : Nat} {i : Int32} (o : Option Nat) (hd : decode M.2.1 pc = .ok (.aaload, 1)) (ha : a ∈ L) (hk : xa_kd a = 12) (hin : vp_in i (xa_ln a)) (ho : hr a i.toNatClampNeg = o) (k : xa_W E M Z kc ks (pc + 1) ls (va_rf o :: st) L hi hr) : xa_W E M Z kc ks pc ls (.int i :: .ref a :: st) L hi hr := by
  intro p e s m args below meth c al0 al H locs cells slots lm C hN hP hD hS hl hc hs
  obtain ⟨q0, hq, hw⟩ := xa_get? (dA := E.2.2) (al := al) (hi := hi) (hr := hr) ha
  rw [xa_en_r hk (by decide)] at hw
  have k2 := k p e s m args below meth c al0 al H locs cells slots lm C hN hP hD hS hl hc hs
  have e : (va_rf o :: st).map (xa_cv al) = va_rf ((hr a i.toNatClampNeg).map al) :: st.map (xa_cv al) := by rw [List.map_cons, xa_cv_rf, ho]
  rw [e] at k2
  exact va_aldq C.1 C.2.1 C.2.2.2.2.2.2.2.2.1.1 hP q0 3 hw rfl hin hd k2
theorem xa_aast_s {a b : Nat} {i : Int32} (hd : decode M.2.1 pc = .ok (.aastore, 1)) (ha : a ∈ L) (hk : xa_kd a = 12) (hb : b ∈ L) (hkb : xa_kd b = 5) (hin : vp_in i (xa_ln a)) (k : xa_W E M Z kc ks (pc + 1) ls st L hi (xa_upr hr a i.toNatClampNeg (some b))) : xa_W E M Z kc ks pc ls (.ref b :: .int i :: .ref a :: st) L hi hr := by
  intro p e s m args below meth c al0 al H locs cells slots lm C hN hP hD hS hl hc hs
  obtain ⟨q0, hq, hw⟩ := xa_get? (dA := E.2.2) (al := al) (hi := hi) (hr := hr) ha
  rw [xa_en_r hk (by decide)] at hw
  obtain ⟨q1, hq1, hw1⟩ := xa_get? (dA := E.2.2) (al := al) (hi := hi) (hr := hr) hb
  rw [xa_en_o hkb (by decide)] at hw1
  refine va_astq C.1 C.2.1 C.2.2.2.2.2.2.2.2.1.1 hP hD hS q0 3 q1 5 hw rfl hw1 rfl hin hd (fun H1 locs1 hP1 hD1 hS1 => ?_)
  have e0 : (fun j => ((xa_upr hr a i.toNatClampNeg (some b)) a j).map al) = va_up (fun j => (hr a j).map al) i.toNatClampNeg (some (al b)) := by
    funext j
    by_cases hj : j = i.toNatClampNeg
    · subst hj; simp [xa_upr, va_up]
    · simp [xa_upr, va_up, hj]
  rw [xa_setw (hi' := hi) (hr' := xa_upr hr a i.toNatClampNeg (some b)) hD hq (fun b hb => xa_en_upr b hb) (by rw [xa_en_r hk (by decide), e0])] at hP1 hD1
  exact k p e s m args below meth c al0 al H1 locs1 cells slots lm C hN hP1 hD1 hS1 hl hc hs
theorem xa_objInit {a idx : Nat} (hd : decode M.2.1 pc = .ok (.invokespecial idx, 3)) (h1 : Cond.methodLink M.1.cls idx objectInit ∈ xa_G) (h2 : Cond.instanceMethod objectInit ∈ xa_G) (h3 : Cond.code objectInit ⟨#[0xb1]⟩ 1 none ∈ xa_G) (hf : 1 ≤ M.2.2.2.2.frames) (hlo : (st.map fun v => v.category).sum + 12 ≤ M.2.2.2.2.locals) (k : xa_W E M Z kc ks (pc + 3) ls st L hi hr) : xa_W E M Z kc ks pc ls (.ref a :: st) L hi hr := by
  intro p e s m args below meth c al0 al H locs cells slots lm C hN hP hD hS hl hc hs
  obtain ⟨lv, g1, g2, g3⟩ := id hl
  have hm : ((st.map (xa_cv al)).map fun v => v.category) = (st.map fun v => v.category) := by
    rw [List.map_map]
    exact List.map_congr_left (fun v _ => xa_cv_cat al v)
  refine W.objInit C.1 C.2.1 C.2.2.2.2.1 (C.2.2.2.2.2.1 _ h1) (C.2.2.2.2.2.1 _ h2) (C.2.2.2.2.2.1 _ h3) rfl (g1.1.trans C.2.2.2.1.symm) rfl hd hf (by show 2 * 0 + _ + 12 ≤ _; rw [hm]; omega) ?_
  exact W.eq (g2 := F0 m (pc + 3) lm (st.map (xa_cv al))) rfl (k p e s m args below meth c al0 al H locs cells slots lm C hN hP hD hS hl hc hs)
end XA4
end
section
/-! ===== contracts over the abstract heap; calls; ends; new cells ===== -/
def xa_Qc (E : xa_EV) (al0 : Nat → Nat) (L0 : List Nat) (sz : Nat) (Post : Option Value → xa_AH → xa_AR → Prop) : Array Value → State → Outcome → State → Prop := fun _ st oc t =>
  (∃ (r : Option Value) (hi' : xa_AH) (hr' : xa_AR), oc = .returned (r.map (xa_cv al0)) ∧ Post r hi' hr' ∧ va_P E.2.1 xa_cl (xa_wd E.2.2 al0 L0 hi' hr') t.heap) ∧ va_F (xa_own al0 L0 sz) st t
def xa_Z (E : xa_EV) (M : xa_MC) (L0 : List Nat) (Post : Option Value → xa_AH → xa_AR → Prop) : xa_ZC :=
  (fun s args below al0 => MQ below (xa_Qc E al0 L0 s.heap.size Post) args s M.2.2.2.2.cells M.2.2.2.2.slots (xa_own al0 L0 s.heap.size), fun _ _ => True, L0, fun _ => True)
abbrev xa_ws (M : xa_MC) : List Cond := Cond.code M.1 M.2.1 M.2.2.1 M.2.2.2.1 :: xa_G
abbrev xa_Pc (E : xa_EV) (as : List Value) (L : List Nat) (hi : xa_AH) (hr : xa_AR) (al : Nat → Nat) (sz : Nat) : Array Value → State → Prop := va_Pc (as.map (xa_cv al)) (fun U => U.heap.size = sz ∧ va_P E.2.1 xa_cl (xa_wd E.2.2 al L hi hr) U.heap ∧ va_D (fun _ => True) (xa_wd E.2.2 al L hi hr) ∧ xa_K E U)
/-- THE CONTRACT of a method that makes no cells -/
def xa_Ct (E : xa_EV) (M : xa_MC) (as : List Value) (L : List Nat) (hi : xa_AH) (hr : xa_AR) (Post : Option Value → xa_AH → xa_AR → Prop) : Prop :=
  ∀ (al : Nat → Nat) (sz : Nat), Met E.1 M.1 (xa_ws M) M.2.2.2.2 (xa_Pc E as L hi hr al sz) (xa_Qc E al L sz Post) M.2.2.2.2.cells M.2.2.2.2.slots (xa_own al L sz)
def xa_QcA (E : xa_EV) (al0 : Nat → Nat) (L0 : List Nat) (sz : Nat) (Post : Option Value → List Nat → xa_AH → xa_AR → Prop) : Array Value → State → Outcome → State → Prop := fun _ st oc t =>
  (∃ (al' : Nat → Nat) (r : Option Value) (L' : List Nat) (hi' : xa_AH) (hr' : xa_AR), (∀ a, a ∈ L0 → al' a = al0 a) ∧ oc = .returned (r.map (xa_cv al')) ∧ Post r L' hi' hr' ∧ va_P E.2.1 xa_cl (xa_wd E.2.2 al' L' hi' hr') t.heap ∧ va_D (xa_own al0 L0 sz) (xa_wd E.2.2 al' L' hi' hr')) ∧ va_F (xa_own al0 L0 sz) st t
def xa_ZA (E : xa_EV) (M : xa_MC) (L0 : List Nat) (Post : Option Value → List Nat → xa_AH → xa_AR → Prop) : xa_ZC :=
  (fun s args below al0 => MQ below (xa_QcA E al0 L0 s.heap.size Post) args s M.2.2.2.2.cells M.2.2.2.2.slots (xa_own al0 L0 s.heap.size), fun _ _ => True, L0, fun a => a ∈ L0)
/-- THE CONTRACT of a method that makes cells -/
def xa_CtA (E : xa_EV) (M : xa_MC) (as : List Value) (L : List Nat) (hi : xa_AH) (hr : xa_AR) (Post : Option Value → List Nat → xa_AH → xa_AR → Prop) : Prop :=
  ∀ (al : Nat → Nat) (sz : Nat), Met E.1 M.1 (xa_ws M) M.2.2.2.2 (xa_Pc E as L hi hr al sz) (xa_QcA E al L sz Post) M.2.2.2.2.cells M.2.2.2.2.slots (xa_own al L sz)
theorem xa_args_mem : ∀ (vs : List Value) (i : Nat), (∀ v ∈ vs, v.category = 1) → (∀ (j : Nat) (v : Value), vs[j]? = some v → (i + j, v) ∈ lv_args i vs) ∧ (∀ q ∈ lv_args i vs, q.2 ∈ vs)
  | [], i, _ => ⟨fun j v h => by simp at h, fun q h => by cases h⟩
  | w :: vs, i, hc => by
    have hw : w.category = 1 := hc w List.mem_cons_self
    obtain ⟨h1, h2⟩ := xa_args_mem vs (i + 1) (fun v hv => hc v (List.mem_cons_of_mem _ hv))
    have e : lv_args i (w :: vs) = (i, w) :: lv_args (i + 1) vs := by simp [lv_args, hw]
    rw [e]
    refine ⟨fun j v h => ?_, fun q h => ?_⟩
    · cases j with
      | zero => simp at h; subst h; exact List.mem_cons_self
      | succ j =>
        rw [List.getElem?_cons_succ] at h
        have h3 := h1 j v h
        rw [show i + 1 + j = i + (j + 1) by omega] at h3
        exact List.mem_cons_of_mem _ h3
    · rcases List.mem_cons.mp h with rfl | h
      · exact List.mem_cons_self
      · exact List.mem_cons_of_mem _ (h2 q h)
theorem xa_sl_len : ∀ (vs : List Value), (∀ v ∈ vs, v.category = 1) → (lg_sl vs).length = vs.length
  | [], _ => rfl
  | w :: vs, hc => by
    have hw : w.category = 1 := hc w List.mem_cons_self
    have h := xa_sl_len vs (fun v hv => hc v (List.mem_cons_of_mem _ hv))
    have e : lg_sl (w :: vs) = .val w :: lg_sl vs := by simp [lg_sl, hw]
    rw [e, List.length_cons, List.length_cons, h]
theorem xa_own_mem {dA : Nat → ClassId} {al : Nat → Nat} {L : List Nat} {hi : xa_AH} {hr : xa_AR} {A : Nat → Prop} {sz : Nat} (hD : va_D A (xa_wd dA al L hi hr)) : va_D (xa_own al L sz) (xa_wd dA al L hi hr) := by
  refine ⟨hD.1, fun k q hk => ?_⟩
  simp only [xa_wd, List.getElem?_map] at hk
  cases hb : L[k]? with
  | none => rw [hb] at hk; cases hk
  | some b => rw [hb] at hk; cases hk; exact Or.inl ⟨b, List.mem_of_getElem? hb, rfl⟩
theorem xa_entry {as : List Value} {ls : List (Option Value)} {nL : Nat} (al : Nat → Nat) (hn : as.length ≤ nL) (hcat : ∀ v ∈ as, v.category = 1) (hls : ls = as.map some ++ List.replicate (nL - as.length) none) : xa_lv al nL ls ((lg_sl (as.map (xa_cv al)) ++ List.replicate (nL - (lg_sl (as.map (xa_cv al))).length) Slot.unset).toArray) := by
  have hc2 : ∀ v ∈ as.map (xa_cv al), v.category = 1 := by
    intro v hv
    obtain ⟨w, hw, rfl⟩ := List.mem_map.mp hv
    rw [xa_cv_cat]; exact hcat w hw
  obtain ⟨h1, h2⟩ := xa_args_mem (as.map (xa_cv al)) 0 hc2
  refine ⟨lv_args 0 (as.map (xa_cv al)), lv_entry _ (by rw [xa_sl_len _ hc2, List.length_map]; exact hn), fun q hq => hc2 _ (h2 q hq), fun i v hv => ?_⟩
  have h3 : as[i]? = some v := by
    rw [hls] at hv
    by_cases hi : i < as.length
    · rw [List.getElem?_append_left (by simpa using hi), List.getElem?_map] at hv
      cases hb : as[i]? with
      | none => rw [hb] at hv; cases hv
      | some b => rw [hb] at hv; cases hv; rfl
    · rw [List.getElem?_append_right (by simpa using hi)] at hv
      have := List.eq_of_mem_replicate (List.mem_of_getElem? hv)
      cases this
  have h4 := h1 i (xa_cv al v) (by rw [List.getElem?_map, h3]; rfl)
  rwa [Nat.zero_add] at h4
theorem xa_Ct.of {E : xa_EV} {M : xa_MC} {as : List Value} {L : List Nat} {hi : xa_AH} {hr : xa_AR} {Post : Option Value → xa_AH → xa_AR → Prop} (ls : List (Option Value)) (hpl : plainName M.1.cls = true) (hn : as.length ≤ M.2.2.1) (hcat : ∀ v ∈ as, v.category = 1) (hls : ls = as.map some ++ List.replicate (M.2.2.1 - as.length) none)
    (walk : xa_W E M (xa_Z E M L Post) M.2.2.2.2.cells M.2.2.2.2.slots 0 ls [] L hi hr) : xa_Ct E M as L hi hr Post := by
  intro al sz
  refine Met.ofW (cc := M.2.1) (maxL := M.2.2.1) (ret := M.2.2.2.1) hpl rfl ?_
  intro p e s m args below meth c s₁ B hml hv
  obtain ⟨rfl, hsz, hP, hD, hK⟩ := hv
  subst hsz
  have hts := atoms_spec (ws := xa_ws M) B.pre
  have h0 : entryFrame m (as.map (xa_cv al)).toArray M.2.2.1 = _ := lg_entry_eq m (as.map (xa_cv al)) M.2.2.1
  rw [h0]
  exact walk p e s m _ below meth c al al s.heap [] 0 0 _ ⟨B.exec, B.bytes, B.returns, hml, findClass_of_methodNamed B.named, fun w hw => hts w (List.mem_cons_of_mem _ hw), B.notSynchronized, (name_of_methodNamed B.named B.method).1, hK, trivial⟩ (fun _ _ => rfl) hP (xa_own_mem hD) va_S.rf (xa_entry al hn hcat hls) (Nat.le_of_eq (Nat.zero_add _)) (Nat.le_of_eq (Nat.zero_add _))
theorem xa_CtA.of {E : xa_EV} {M : xa_MC} {as : List Value} {L : List Nat} {hi : xa_AH} {hr : xa_AR} {Post : Option Value → List Nat → xa_AH → xa_AR → Prop} (ls : List (Option Value)) (hpl : plainName M.1.cls = true) (hn : as.length ≤ M.2.2.1) (hcat : ∀ v ∈ as, v.category = 1) (hls : ls = as.map some ++ List.replicate (M.2.2.1 - as.length) none)
    (walk : xa_W E M (xa_ZA E M L Post) M.2.2.2.2.cells M.2.2.2.2.slots 0 ls [] L hi hr) : xa_CtA E M as L hi hr Post := by
  intro al sz
  refine Met.ofW (cc := M.2.1) (maxL := M.2.2.1) (ret := M.2.2.2.1) hpl rfl ?_
  intro p e s m args below meth c s₁ B hml hv
  obtain ⟨rfl, hsz, hP, hD, hK⟩ := hv
  subst hsz
  have hts := atoms_spec (ws := xa_ws M) B.pre
  have h0 : entryFrame m (as.map (xa_cv al)).toArray M.2.2.1 = _ := lg_entry_eq m (as.map (xa_cv al)) M.2.2.1
  rw [h0]
  exact walk p e s m _ below meth c al al s.heap [] 0 0 _ ⟨B.exec, B.bytes, B.returns, hml, findClass_of_methodNamed B.named, fun w hw => hts w (List.mem_cons_of_mem _ hw), B.notSynchronized, (name_of_methodNamed B.named B.method).1, hK, trivial⟩ (fun _ _ => rfl) hP (xa_own_mem hD) va_S.rf (xa_entry al hn hcat hls) (Nat.le_of_eq (Nat.zero_add _)) (Nat.le_of_eq (Nat.zero_add _))
/-! ends -/
section XA5
variable {E : xa_EV} {M : xa_MC} {kc ks pc : Nat} {ls : List (Option Value)} {st : List Value} {L : List Nat} {hi : xa_AH} {hr : xa_AR} {Post : Option Value → xa_AH → xa_AR → Prop} {PostA : Option Value → List Nat → xa_AH → xa_AR → Prop} {L0 : List Nat}
theorem xa_zret {v : Int32} {ty : FieldType} (hd : decode M.2.1 pc = .ok (.ireturn, 1)) (hrt : M.2.2.2.1 = some ty) (hn : narrow ty (.int v) = .int v) (hp : Post (some (.int v)) hi hr) : xa_W E M (xa_Z E M L Post) kc ks pc ls [.int v] L hi hr := by
  intro p e s m args below meth c al0 al H locs cells slots lm C hN hP hD hS hl hc hs
  have ea : al = al0 := funext fun a => hN a trivial
  subst ea
  refine W.widen (k := M.2.2.2.2.cells) (n := M.2.2.2.2.slots) (by omega) (by omega) ?_
  exact W.zret C.1 C.2.1 (C.2.2.1.trans hrt) hn (fun t ht hW => ⟨⟨some (.int v), hi, hr, rfl, hp, by rw [ht]; exact hP⟩, hS.F ht⟩) hS.2.2 hd (hlocks := C.2.2.2.2.2.2.1)
theorem xa_vret (hd : decode M.2.1 pc = .ok (.return_, 1)) (hrt : M.2.2.2.1 = none) (hp : Post none hi hr) : xa_W E M (xa_Z E M L Post) kc ks pc ls [] L hi hr := by
  intro p e s m args below meth c al0 al H locs cells slots lm C hN hP hD hS hl hc hs
  have ea : al = al0 := funext fun a => hN a trivial
  subst ea
  refine W.widen (k := M.2.2.2.2.cells) (n := M.2.2.2.2.slots) (by omega) (by omega) ?_
  exact W.vret C.1 C.2.1 (C.2.2.1.trans hrt) (fun t ht hW => ⟨⟨none, hi, hr, rfl, hp, by rw [ht]; exact hP⟩, hS.F ht⟩) hS.2.2 hd (hlocks := C.2.2.2.2.2.2.1)
theorem xa_aret (o : Option Nat) {n : String} (hd : decode M.2.1 pc = .ok (.areturn, 1)) (hrt : M.2.2.2.1 = some (.object n)) (hp : Post (some (va_rf o)) hi hr) : xa_W E M (xa_Z E M L Post) kc ks pc ls [va_rf o] L hi hr := by
  intro p e s m args below meth c al0 al H locs cells slots lm C hN hP hD hS hl hc hs
  have ea : al = al0 := funext fun a => hN a trivial
  subst ea
  refine W.widen (k := M.2.2.2.2.cells) (n := M.2.2.2.2.slots) (by omega) (by omega) ?_
  exact W.aret (v := xa_cv al (va_rf o)) C.1 C.2.1 (C.2.2.1.trans hrt) (Or.inl ⟨n, rfl⟩) (by rw [xa_cv_rf]; exact va_rf_or _) (fun t ht hW => ⟨⟨some (va_rf o), hi, hr, rfl, hp, by rw [ht]; exact hP⟩, hS.F ht⟩) hS.2.2 hd (hlocks := C.2.2.2.2.2.2.1)
theorem xa_zretA {v : Int32} {ty : FieldType} (hd : decode M.2.1 pc = .ok (.ireturn, 1)) (hrt : M.2.2.2.1 = some ty) (hn : narrow ty (.int v) = .int v) (hp : PostA (some (.int v)) L hi hr) : xa_W E M (xa_ZA E M L0 PostA) kc ks pc ls [.int v] L hi hr := by
  intro p e s m args below meth c al0 al H locs cells slots lm C hN hP hD hS hl hc hs
  refine W.widen (k := M.2.2.2.2.cells) (n := M.2.2.2.2.slots) (by omega) (by omega) ?_
  exact W.zret C.1 C.2.1 (C.2.2.1.trans hrt) hn (fun t ht hW => ⟨⟨al, some (.int v), L, hi, hr, hN, rfl, hp, by rw [ht]; exact hP, hD⟩, hS.F ht⟩) hS.2.2 hd (hlocks := C.2.2.2.2.2.2.1)
theorem xa_vretA (hd : decode M.2.1 pc = .ok (.return_, 1)) (hrt : M.2.2.2.1 = none) (hp : PostA none L hi hr) : xa_W E M (xa_ZA E M L0 PostA) kc ks pc ls [] L hi hr := by
  intro p e s m args below meth c al0 al H locs cells slots lm C hN hP hD hS hl hc hs
  refine W.widen (k := M.2.2.2.2.cells) (n := M.2.2.2.2.slots) (by omega) (by omega) ?_
  exact W.vret C.1 C.2.1 (C.2.2.1.trans hrt) (fun t ht hW => ⟨⟨al, none, L, hi, hr, hN, rfl, hp, by rw [ht]; exact hP, hD⟩, hS.F ht⟩) hS.2.2 hd (hlocks := C.2.2.2.2.2.2.1)
end XA5
/-! calls -/
/-- what a call's place needs of the tables -/
def xa_CB (M' : xa_MC) (n : Nat) : Prop := Cond.initialized M'.1.cls ∈ xa_G ∧ Cond.code M'.1 M'.2.1 M'.2.2.1 M'.2.2.2.1 ∈ xa_G ∧ (M'.1.cls ≠ "java/lang/invoke/MethodHandle" ∧ M'.1.cls ≠ "java/lang/invoke/VarHandle" ∧ (parseMethodDescriptor M'.1.desc).map (fun d => d.parameters.length) = some n)
def xa_CV (own : String) (idx : Nat) (M' : xa_MC) (n : Nat) : Prop := xa_CB M' n ∧ Cond.methodLink own idx M'.1 ∈ xa_G ∧ Cond.instanceMethod M'.1 ∈ xa_G ∧ Cond.selects M'.1.cls M'.1 M'.1 ∈ xa_G
def xa_CS (own : String) (idx : Nat) (M' : xa_MC) (n : Nat) : Prop := xa_CB M' n ∧ Cond.methodLink own idx M'.1 ∈ xa_G ∧ Cond.static M'.1 ∈ xa_G
def xa_CSN (own : String) (idx : Nat) (M' : xa_MC) (n : Nat) : Prop := xa_CB M' n ∧ (∃ h : String, Cond.methodLinkNest own idx M'.1 h ∈ xa_nest) ∧ Cond.static M'.1 ∈ xa_G
def xa_CI (own : String) (idx : Nat) (M' : xa_MC) (n : Nat) : Prop := xa_CB M' n ∧ Cond.methodLink own idx M'.1 ∈ xa_G ∧ M'.1.name = "<init>" ∧ Cond.instanceMethod M'.1 ∈ xa_G ∧ M'.2.2.2.1 = none
def xa_CIN (own : String) (idx : Nat) (M' : xa_MC) (n : Nat) : Prop := xa_CB M' n ∧ (∃ h : String, Cond.methodLinkNest own idx M'.1 h ∈ xa_nest) ∧ M'.1.name = "<init>" ∧ Cond.instanceMethod M'.1 ∈ xa_G ∧ M'.2.2.2.1 = none
theorem xa_goodw {M' : xa_MC} {n : Nat} (h : xa_CB M' n) : GoodIn xa_G (xa_ws M') := fun w hw => by
  rcases List.mem_cons.mp hw with rfl | hw
  · exact ⟨h.2.1, xa_good h.2.1⟩
  · exact ⟨hw, xa_good hw⟩
section XA6
variable {p : Program} {l : Launch} {e : Env} {R : Room} {s : State} {m : MethodId} {args : Array Value} {below : List Frame} {meth : Method} {c : Code} {H : Heap} {locs : List Loc} {cells slots : Nat} {Q : State → Prop} {pc : Nat} {lm : Array Slot} {st0 rest : List Value} {mc ms : Nat}
variable {E : xa_EV} {L : List Nat} {hi : xa_AH} {hr : xa_AR} {al : Nat → Nat} {A0 : Nat → Prop}
theorem xa_sub_own {dA : Nat → ClassId} (hD : va_D A0 (xa_wd dA al L hi hr)) (hS : va_S A0 s.heap H locs) (hA : ∀ q, s.heap.size ≤ q → A0 q) : ∀ q, xa_own al L H.size q → A0 q := by
  intro q h
  rcases h with ⟨a, ha, rfl⟩ | h
  · obtain ⟨i, -, h2⟩ := xa_get? (dA := dA) (al := al) (hi := hi) (hr := hr) ha
    exact hD.2 i _ h2
  · exact hA q (Nat.le_trans hS.1 h)
theorem xa_after {Post : Option Value → xa_AH → xa_AR → Prop} {a : Array Value} (hrun : va_Run p l e R s m args below meth c H locs cells slots mc ms (F0 m pc lm st0) rest (xa_Qc E al L H.size Post a) (xa_own al L H.size)) (hS : va_S A0 s.heap H locs) (hA : ∀ q, xa_own al L H.size q → A0 q)
    (kk : ∀ (r : Option Value) (hi' : xa_AH) (hr' : xa_AR) (H1 : Heap) (locs1 : List Loc), Post r hi' hr' → va_P E.2.1 xa_cl (xa_wd E.2.2 al L hi' hr') H1 → va_S A0 s.heap H1 locs1 → W p l e R s m args below meth c H1 locs1 (cells + mc) (slots + ms) Q (F0 m (pc + 3) lm ((r.map (xa_cv al)).toList ++ rest))) : W p l e R s m args below meth c H locs cells slots Q (F0 m pc lm st0) := by
  intro T hT X
  obtain ⟨v, st₀, t, T', Ls, h0, X', hL, e1, e2, ⟨⟨r, hi', hr', hv, hp, hb⟩, hz, hk⟩, st⟩ := hrun T hT X
  cases hv
  rw [h0] at hz hk
  obtain ⟨t2, a1, b1⟩ := kk r hi' hr' T'.heap (locs ++ Ls) hp (by rw [e1]; exact hb)
    ⟨Nat.le_trans hS.1 (by rw [e1]; exact hz), fun q h1 h2 => by rw [e1, hk q (Nat.lt_of_lt_of_le h1 hS.1) (fun z => h2 (hA q z))]; exact hS.2.1 q h1 h2, fun q hq => by
      rcases List.mem_append.mp hq with h | h
      · exact hS.2.2 q h
      · exact hA _ (hL q h)⟩ T' rfl X'
  exact ⟨t2, st t2 a1, b1⟩
theorem xa_afterA {Post : Option Value → List Nat → xa_AH → xa_AR → Prop} {a : Array Value} (hrun : va_Run p l e R s m args below meth c H locs cells slots mc ms (F0 m pc lm st0) rest (xa_QcA E al L H.size Post a) (xa_own al L H.size)) (hS : va_S A0 s.heap H locs) (hA : ∀ q, xa_own al L H.size q → A0 q)
    (kk : ∀ (al' : Nat → Nat) (r : Option Value) (L' : List Nat) (hi' : xa_AH) (hr' : xa_AR) (H1 : Heap) (locs1 : List Loc), (∀ a, a ∈ L → al' a = al a) → Post r L' hi' hr' → va_P E.2.1 xa_cl (xa_wd E.2.2 al' L' hi' hr') H1 → va_D A0 (xa_wd E.2.2 al' L' hi' hr') → va_S A0 s.heap H1 locs1 → W p l e R s m args below meth c H1 locs1 (cells + mc) (slots + ms) Q (F0 m (pc + 3) lm ((r.map (xa_cv al')).toList ++ rest))) : W p l e R s m args below meth c H locs cells slots Q (F0 m pc lm st0) := by
  intro T hT X
  obtain ⟨v, st₀, t, T', Ls, h0, X', hL, e1, e2, ⟨⟨al', r, L', hi', hr', hag, hv, hp, hb, hd⟩, hz, hk⟩, st⟩ := hrun T hT X
  cases hv
  rw [h0] at hz hk
  obtain ⟨t2, a1, b1⟩ := kk al' r L' hi' hr' T'.heap (locs ++ Ls) hag hp (by rw [e1]; exact hb) (hd.weaken (fun k q _ h => hA _ h))
    ⟨Nat.le_trans hS.1 (by rw [e1]; exact hz), fun q h1 h2 => by rw [e1, hk q (Nat.lt_of_lt_of_le h1 hS.1) (fun z => h2 (hA q z))]; exact hS.2.1 q h1 h2, fun q hq => by
      rcases List.mem_append.mp hq with h | h
      · exact hS.2.2 q h
      · exact hA _ (hL q h)⟩ T' rfl X'
  exact ⟨t2, st t2 a1, b1⟩
theorem xa_blind {as : List Value} {sz : Nat} : FrameBlind (xa_Pc E as L hi hr al sz) := fun a U g mk q => by
  obtain ⟨q0, q1, qP, qD, qK⟩ := q
  exact ⟨q0, q1, qP, qD, xa_K.same (s := U) (U := U.calling g mk a) rfl qK⟩
theorem xa_preS {as : List Value} {A : Nat → Prop} (hP : va_P E.2.1 xa_cl (xa_wd E.2.2 al L hi hr) H) (hD : va_D A (xa_wd E.2.2 al L hi hr)) (hK : xa_K E s) : PreS s H (xa_Pc E as L hi hr al H.size) (as.map (xa_cv al)) :=
  ⟨xa_blind, fun U hU hW => ⟨rfl, by rw [hU], by rw [hU]; exact hP, hD.weaken (fun _ _ _ _ => trivial), hK.warm hW⟩⟩
end XA6
end
section
section XA7
variable {E : xa_EV} {M : xa_MC} {Z : xa_ZC} {kc ks pc : Nat} {ls : List (Option Value)} {st stk : List Value} {L : List Nat} {hi : xa_AH} {hr : xa_AR} {M2 : xa_MC} {as : List Value} {idx n : Nat}
theorem xa_catsum (al : Nat → Nat) (st : List Value) : ((st.map (xa_cv al)).map fun v => v.category).sum = (st.map fun v => v.category).sum := by
  rw [List.map_map]
  exact congrArg List.sum (List.map_congr_left (fun v _ => xa_cv_cat al v))
theorem xa_toList (al : Nat → Nat) (r : Option Value) (st : List Value) : (r.map (xa_cv al)).toList ++ st.map (xa_cv al) = (r.toList ++ st).map (xa_cv al) := by
  cases r <;> rfl
theorem xa_recv {b ci : Nat} {q : vw_C} {s : State} {H : Heap} {al : Nat → Nat} (hK : xa_K E s) (hP : va_P E.2.1 xa_cl (xa_wd E.2.2 al L hi hr) H) (hb : b ∈ L) (hk : xa_kd b = ci) (hc : xa_cl[ci]? = some q) : ∃ cell : Cell, H[al b]? = some cell ∧ cell.vm.isStatics = false ∧ s.vm.findClass q.1 = some cell.cls := by
  obtain ⟨q0, hq, hw⟩ := xa_get? (dA := E.2.2) (al := al) (hi := hi) (hr := hr) hb
  rw [xa_en_o hk (xa_ci hc)] at hw
  exact va_recv hK.1 hP hc hw
theorem xa_callV {Post : Option Value → xa_AH → xa_AR → Prop} {b ci : Nat} {T : u_T} {N : Nat} (hb : b ∈ L) (hk : xa_kd b = ci) (hcl : xa_cl[ci]? = some (M2.1.cls, T, N)) (hT : xa_CV M.1.cls idx M2 n) (hd : decode M.2.1 pc = .ok (.invokevirtual idx, 3)) (hC : xa_Ct E M2 (.ref b :: as) L hi hr Post) (hsk : stk = as.reverse ++ .ref b :: st) (hn : as.length = n) (hR : M2.2.2.2.2.frames + 1 ≤ M.2.2.2.2.frames ∧ 8 + (M2.2.2.1 + 11) + M2.2.2.2.2.locals ≤ M.2.2.2.2.locals) (hw : (st.map fun v => v.category).sum ≤ 8) (hz : M2.2.2.2.2.cells = 0 ∧ M2.2.2.2.2.slots = 0) (kk : ∀ (r : Option Value) (hi2 : xa_AH) (hr2 : xa_AR), Post r hi2 hr2 → xa_W E M Z kc ks (pc + 3) ls (r.toList ++ st) L hi2 hr2) : xa_W E M Z kc ks pc ls stk L hi hr := by
  intro p e s m args below meth c al0 al H locs cells slots lm C hN hP hD hS hl hc hs
  subst hsk
  obtain ⟨⟨k1, k2, k3⟩, k4, k5, k6⟩ := hT
  obtain ⟨lv, f1, f2, f3⟩ := id hl
  have hml := f1.1
  have hsk : (as.reverse ++ .ref b :: st).map (xa_cv al) = (as.map (xa_cv al)).reverse ++ .ref (al b) :: st.map (xa_cv al) := by simp [List.map_reverse, xa_cv]
  have hA := xa_sub_own hD hS xa_own_new
  have hrun := va_runV (p := p) (l := E.1) (e := e) (below := below) (meth := meth) (locs := locs) (cells := cells) (slots := slots) (H := H) (g := F0 m pc lm ((as.reverse ++ .ref b :: st).map (xa_cv al))) (b := al b) (As := as.map (xa_cv al)) (rest := st.map (xa_cv al)) (nL := M.2.2.1) (index := idx) (bytes := M2.2.1) (maxL := M2.2.2.1) ⟨C.1, C.2.1, C.2.2.2.1, C.2.2.2.2.1, C.2.2.2.2.2.1⟩ (hC al H.size) ⟨callB_of n C.2.2.2.2.2.1 (xa_goodw ⟨k1, k2, k3⟩) rfl rfl rfl (C.2.2.2.2.2.1 _ k1) (C.2.2.2.2.2.1 _ k4) k3 hR, C.2.2.2.2.2.1 _ k5, C.2.2.2.2.2.1 _ k6⟩ ⟨xa_blind, xa_recv C.2.2.2.2.2.2.2.2.1 hP hb hk hcl, (xa_preS hP hD C.2.2.2.2.2.2.2.2.1).2⟩ rfl (by rw [List.length_map]; exact hn) hml hsk (lv_room (by rw [xa_catsum]; exact hw)) hd (by rw [hz.1, hz.2]; exact ⟨by omega, by omega⟩)
  refine xa_after hrun hS hA (fun r hi2 hr2 H1 locs1 hp hP1 hS1 => ?_)
  rw [xa_toList]
  exact kk r hi2 hr2 hp p e s m args below meth c al0 al H1 locs1 _ _ lm C hN hP1 (xa_D_same hD) hS1 hl (by rw [hz.1]; exact hc) (by rw [hz.2]; exact hs)
theorem xa_callS {Post : Option Value → xa_AH → xa_AR → Prop} (hT : xa_CS M.1.cls idx M2 n) (hd : decode M.2.1 pc = .ok (.invokestatic idx, 3)) (hC : xa_Ct E M2 as L hi hr Post) (hsk : stk = as.reverse ++ st) (hn : as.length = n) (hR : M2.2.2.2.2.frames + 1 ≤ M.2.2.2.2.frames ∧ 8 + (M2.2.2.1 + 11) + M2.2.2.2.2.locals ≤ M.2.2.2.2.locals) (hw : (st.map fun v => v.category).sum ≤ 8) (hz : M2.2.2.2.2.cells = 0 ∧ M2.2.2.2.2.slots = 0) (kk : ∀ (r : Option Value) (hi2 : xa_AH) (hr2 : xa_AR), Post r hi2 hr2 → xa_W E M Z kc ks (pc + 3) ls (r.toList ++ st) L hi2 hr2) : xa_W E M Z kc ks pc ls stk L hi hr := by
  intro p e s m args below meth c al0 al H locs cells slots lm C hN hP hD hS hl hc hs
  subst hsk
  obtain ⟨⟨k1, k2, k3⟩, k4, k5⟩ := hT
  obtain ⟨lv, f1, f2, f3⟩ := id hl
  have hml := f1.1
  have hsk : (as.reverse ++ st).map (xa_cv al) = (as.map (xa_cv al)).reverse ++ st.map (xa_cv al) := by simp [List.map_reverse, xa_cv]
  have hA := xa_sub_own hD hS xa_own_new
  have hrun := va_runS (p := p) (l := E.1) (e := e) (below := below) (meth := meth) (locs := locs) (cells := cells) (slots := slots) (H := H) (g := F0 m pc lm ((as.reverse ++ st).map (xa_cv al))) (As := as.map (xa_cv al)) (rest := st.map (xa_cv al)) (nL := M.2.2.1) (index := idx) (bytes := M2.2.1) (maxL := M2.2.2.1) ⟨C.1, C.2.1, C.2.2.2.1, C.2.2.2.2.1, C.2.2.2.2.2.1⟩ (hC al H.size) ⟨callB_of n C.2.2.2.2.2.1 (xa_goodw ⟨k1, k2, k3⟩) rfl rfl rfl (C.2.2.2.2.2.1 _ k1) (C.2.2.2.2.2.1 _ k4) k3 hR, C.2.2.2.2.2.1 _ k5⟩ (xa_preS hP hD C.2.2.2.2.2.2.2.2.1) rfl (by rw [List.length_map]; exact hn) hml hsk (lv_room (by rw [xa_catsum]; exact hw)) hd (by rw [hz.1, hz.2]; exact ⟨by omega, by omega⟩)
  refine xa_after hrun hS hA (fun r hi2 hr2 H1 locs1 hp hP1 hS1 => ?_)
  rw [xa_toList]
  exact kk r hi2 hr2 hp p e s m args below meth c al0 al H1 locs1 _ _ lm C hN hP1 (xa_D_same hD) hS1 hl (by rw [hz.1]; exact hc) (by rw [hz.2]; exact hs)
theorem xa_callSN {Post : Option Value → xa_AH → xa_AR → Prop} (hT : xa_CSN M.1.cls idx M2 n) (hd : decode M.2.1 pc = .ok (.invokestatic idx, 3)) (hC : xa_Ct E M2 as L hi hr Post) (hsk : stk = as.reverse ++ st) (hn : as.length = n) (hR : M2.2.2.2.2.frames + 1 ≤ M.2.2.2.2.frames ∧ 8 + (M2.2.2.1 + 11) + M2.2.2.2.2.locals ≤ M.2.2.2.2.locals) (hw : (st.map fun v => v.category).sum ≤ 8) (hz : M2.2.2.2.2.cells = 0 ∧ M2.2.2.2.2.slots = 0) (kk : ∀ (r : Option Value) (hi2 : xa_AH) (hr2 : xa_AR), Post r hi2 hr2 → xa_W E M Z kc ks (pc + 3) ls (r.toList ++ st) L hi2 hr2) : xa_W E M Z kc ks pc ls stk L hi hr := by
  intro p e s m args below meth c al0 al H locs cells slots lm C hN hP hD hS hl hc hs
  subst hsk
  obtain ⟨⟨k1, k2, k3⟩, ⟨hh, k4⟩, k5⟩ := hT
  obtain ⟨lv, f1, f2, f3⟩ := id hl
  have hml := f1.1
  have hsk : (as.reverse ++ st).map (xa_cv al) = (as.map (xa_cv al)).reverse ++ st.map (xa_cv al) := by simp [List.map_reverse, xa_cv]
  have hA := xa_sub_own hD hS xa_own_new
  have hrun := va_runSN (p := p) (l := E.1) (e := e) (below := below) (meth := meth) (locs := locs) (cells := cells) (slots := slots) (H := H) (g := F0 m pc lm ((as.reverse ++ st).map (xa_cv al))) (As := as.map (xa_cv al)) (rest := st.map (xa_cv al)) (nL := M.2.2.1) (index := idx) (bytes := M2.2.1) (maxL := M2.2.2.1) ⟨C.1, C.2.1, C.2.2.2.1, C.2.2.2.2.1, C.2.2.2.2.2.1⟩ (hC al H.size) ⟨va_cnB n C.2.2.2.2.2.1 (xa_goodw ⟨k1, k2, k3⟩) rfl rfl rfl (C.2.2.2.2.2.2.2.2.1.2.1 _ k4) (C.2.2.2.2.2.1 _ k1) k3 hR, C.2.2.2.2.2.1 _ k5, trivial⟩ (xa_preS hP hD C.2.2.2.2.2.2.2.2.1) rfl (by rw [List.length_map]; exact hn) hml hsk (lv_room (by rw [xa_catsum]; exact hw)) hd (by rw [hz.1, hz.2]; exact ⟨by omega, by omega⟩)
  refine xa_after hrun hS hA (fun r hi2 hr2 H1 locs1 hp hP1 hS1 => ?_)
  rw [xa_toList]
  exact kk r hi2 hr2 hp p e s m args below meth c al0 al H1 locs1 _ _ lm C hN hP1 (xa_D_same hD) hS1 hl (by rw [hz.1]; exact hc) (by rw [hz.2]; exact hs)
theorem xa_callI {Post : Option Value → xa_AH → xa_AR → Prop} {b : Nat} (hT : xa_CI M.1.cls idx M2 n) (hd : decode M.2.1 pc = .ok (.invokespecial idx, 3)) (hC : xa_Ct E M2 (.ref b :: as) L hi hr Post) (hsk : stk = as.reverse ++ .ref b :: st) (hn : as.length = n) (hR : M2.2.2.2.2.frames + 1 ≤ M.2.2.2.2.frames ∧ 8 + (M2.2.2.1 + 11) + M2.2.2.2.2.locals ≤ M.2.2.2.2.locals) (hw : (st.map fun v => v.category).sum ≤ 8) (hz : M2.2.2.2.2.cells = 0 ∧ M2.2.2.2.2.slots = 0) (kk : ∀ (r : Option Value) (hi2 : xa_AH) (hr2 : xa_AR), Post r hi2 hr2 → xa_W E M Z kc ks (pc + 3) ls (r.toList ++ st) L hi2 hr2) : xa_W E M Z kc ks pc ls stk L hi hr := by
  intro p e s m args below meth c al0 al H locs cells slots lm C hN hP hD hS hl hc hs
  subst hsk
  obtain ⟨⟨k1, k2, k3⟩, k4, k5, k6, k7⟩ := hT
  obtain ⟨lv, f1, f2, f3⟩ := id hl
  have hml := f1.1
  have hsk : (as.reverse ++ .ref b :: st).map (xa_cv al) = (as.map (xa_cv al)).reverse ++ .ref (al b) :: st.map (xa_cv al) := by simp [List.map_reverse, xa_cv]
  have hA := xa_sub_own hD hS xa_own_new
  have hrun := va_runI (p := p) (l := E.1) (e := e) (below := below) (meth := meth) (locs := locs) (cells := cells) (slots := slots) (H := H) (g := F0 m pc lm ((as.reverse ++ .ref b :: st).map (xa_cv al))) (b := al b) (As := as.map (xa_cv al)) (rest := st.map (xa_cv al)) (nL := M.2.2.1) (index := idx) (bytes := M2.2.1) (maxL := M2.2.2.1) ⟨C.1, C.2.1, C.2.2.2.1, C.2.2.2.2.1, C.2.2.2.2.2.1⟩ (hC al H.size) ⟨callB_of n C.2.2.2.2.2.1 (xa_goodw ⟨k1, k2, k3⟩) (by show Cond.code _ _ _ M2.2.2.2.1 :: _ = _; rw [k7]) rfl rfl (C.2.2.2.2.2.1 _ k1) (C.2.2.2.2.2.1 _ k4) k3 hR, k5, C.2.2.2.2.2.1 _ k6⟩ (xa_preS hP hD C.2.2.2.2.2.2.2.2.1) rfl (by rw [List.length_map]; exact hn) hml hsk (lv_room (by rw [xa_catsum]; exact hw)) hd (by rw [hz.1, hz.2]; exact ⟨by omega, by omega⟩)
  refine xa_after hrun hS hA (fun r hi2 hr2 H1 locs1 hp hP1 hS1 => ?_)
  rw [xa_toList]
  exact kk r hi2 hr2 hp p e s m args below meth c al0 al H1 locs1 _ _ lm C hN hP1 (xa_D_same hD) hS1 hl (by rw [hz.1]; exact hc) (by rw [hz.2]; exact hs)
theorem xa_callIN {Post : Option Value → xa_AH → xa_AR → Prop} {b : Nat} (hT : xa_CIN M.1.cls idx M2 n) (hd : decode M.2.1 pc = .ok (.invokespecial idx, 3)) (hC : xa_Ct E M2 (.ref b :: as) L hi hr Post) (hsk : stk = as.reverse ++ .ref b :: st) (hn : as.length = n) (hR : M2.2.2.2.2.frames + 1 ≤ M.2.2.2.2.frames ∧ 8 + (M2.2.2.1 + 11) + M2.2.2.2.2.locals ≤ M.2.2.2.2.locals) (hw : (st.map fun v => v.category).sum ≤ 8) (hz : M2.2.2.2.2.cells = 0 ∧ M2.2.2.2.2.slots = 0) (kk : ∀ (r : Option Value) (hi2 : xa_AH) (hr2 : xa_AR), Post r hi2 hr2 → xa_W E M Z kc ks (pc + 3) ls (r.toList ++ st) L hi2 hr2) : xa_W E M Z kc ks pc ls stk L hi hr := by
  intro p e s m args below meth c al0 al H locs cells slots lm C hN hP hD hS hl hc hs
  subst hsk
  obtain ⟨⟨k1, k2, k3⟩, ⟨hh, k4⟩, k5, k6, k7⟩ := hT
  obtain ⟨lv, f1, f2, f3⟩ := id hl
  have hml := f1.1
  have hsk : (as.reverse ++ .ref b :: st).map (xa_cv al) = (as.map (xa_cv al)).reverse ++ .ref (al b) :: st.map (xa_cv al) := by simp [List.map_reverse, xa_cv]
  have hA := xa_sub_own hD hS xa_own_new
  have hrun := va_runIN (p := p) (l := E.1) (e := e) (below := below) (meth := meth) (locs := locs) (cells := cells) (slots := slots) (H := H) (g := F0 m pc lm ((as.reverse ++ .ref b :: st).map (xa_cv al))) (b := al b) (As := as.map (xa_cv al)) (rest := st.map (xa_cv al)) (nL := M.2.2.1) (index := idx) (bytes := M2.2.1) (maxL := M2.2.2.1) ⟨C.1, C.2.1, C.2.2.2.1, C.2.2.2.2.1, C.2.2.2.2.2.1⟩ (hC al H.size) ⟨va_cnB n C.2.2.2.2.2.1 (xa_goodw ⟨k1, k2, k3⟩) (by show Cond.code _ _ _ M2.2.2.2.1 :: _ = _; rw [k7]) rfl rfl (C.2.2.2.2.2.2.2.2.1.2.1 _ k4) (C.2.2.2.2.2.1 _ k1) k3 hR, k5, C.2.2.2.2.2.1 _ k6⟩ (xa_preS hP hD C.2.2.2.2.2.2.2.2.1) rfl (by rw [List.length_map]; exact hn) hml hsk (lv_room (by rw [xa_catsum]; exact hw)) hd (by rw [hz.1, hz.2]; exact ⟨by omega, by omega⟩)
  refine xa_after hrun hS hA (fun r hi2 hr2 H1 locs1 hp hP1 hS1 => ?_)
  rw [xa_toList]
  exact kk r hi2 hr2 hp p e s m args below meth c al0 al H1 locs1 _ _ lm C hN hP1 (xa_D_same hD) hS1 hl (by rw [hz.1]; exact hc) (by rw [hz.2]; exact hs)
theorem xa_callVA {Post : Option Value → List Nat → xa_AH → xa_AR → Prop} {b ci : Nat} {T : u_T} {N : Nat} (hb : b ∈ L) (hk : xa_kd b = ci) (hcl : xa_cl[ci]? = some (M2.1.cls, T, N)) (hT : xa_CV M.1.cls idx M2 n) (hd : decode M.2.1 pc = .ok (.invokevirtual idx, 3)) (hC : xa_CtA E M2 (.ref b :: as) L hi hr Post) (hsk : stk = as.reverse ++ .ref b :: st) (hn : as.length = n) (hR : M2.2.2.2.2.frames + 1 ≤ M.2.2.2.2.frames ∧ 8 + (M2.2.2.1 + 11) + M2.2.2.2.2.locals ≤ M.2.2.2.2.locals) (hw : (st.map fun v => v.category).sum ≤ 8) (hkc : M2.2.2.2.2.cells ≤ kc) (hks : M2.2.2.2.2.slots ≤ ks) (hZ : ∀ a, Z.2.2.2 a → a ∈ L) (hst : ∀ a, Value.ref a ∈ st → a ∈ L) (hlr : ∀ a, some (Value.ref a) ∈ ls → a ∈ L) (kk : ∀ (r : Option Value) (L2 : List Nat) (hi2 : xa_AH) (hr2 : xa_AR), Post r L2 hi2 hr2 → xa_W E M Z (kc - M2.2.2.2.2.cells) (ks - M2.2.2.2.2.slots) (pc + 3) ls (r.toList ++ st) L2 hi2 hr2) : xa_W E M Z kc ks pc ls stk L hi hr := by
  intro p e s m args below meth c al0 al H locs cells slots lm C hN hP hD hS hl hc hs
  subst hsk
  obtain ⟨⟨k1, k2, k3⟩, k4, k5, k6⟩ := hT
  obtain ⟨lv, f1, f2, f3⟩ := id hl
  have hml := f1.1
  have hsk : (as.reverse ++ .ref b :: st).map (xa_cv al) = (as.map (xa_cv al)).reverse ++ .ref (al b) :: st.map (xa_cv al) := by simp [List.map_reverse, xa_cv]
  have hA := xa_sub_own hD hS xa_own_new
  have hrun := va_runV (p := p) (l := E.1) (e := e) (below := below) (meth := meth) (locs := locs) (cells := cells) (slots := slots) (H := H) (g := F0 m pc lm ((as.reverse ++ .ref b :: st).map (xa_cv al))) (b := al b) (As := as.map (xa_cv al)) (rest := st.map (xa_cv al)) (nL := M.2.2.1) (index := idx) (bytes := M2.2.1) (maxL := M2.2.2.1) ⟨C.1, C.2.1, C.2.2.2.1, C.2.2.2.2.1, C.2.2.2.2.2.1⟩ (hC al H.size) ⟨callB_of n C.2.2.2.2.2.1 (xa_goodw ⟨k1, k2, k3⟩) rfl rfl rfl (C.2.2.2.2.2.1 _ k1) (C.2.2.2.2.2.1 _ k4) k3 hR, C.2.2.2.2.2.1 _ k5, C.2.2.2.2.2.1 _ k6⟩ ⟨xa_blind, xa_recv C.2.2.2.2.2.2.2.2.1 hP hb hk hcl, (xa_preS hP hD C.2.2.2.2.2.2.2.2.1).2⟩ rfl (by rw [List.length_map]; exact hn) hml hsk (lv_room (by rw [xa_catsum]; exact hw)) hd ⟨by omega, by omega⟩
  refine xa_afterA hrun hS hA (fun al2 r L2 hi2 hr2 H1 locs1 hag hp hP1 hD1 hS1 => ?_)
  have est : st.map (xa_cv al) = st.map (xa_cv al2) := List.map_congr_left (fun v hv => by cases v <;> first | rfl | (rename_i q; show Value.ref (al q) = Value.ref (al2 q); rw [hag q (hst q hv)]))
  rw [est, xa_toList]
  exact kk r L2 hi2 hr2 hp p e s m args below meth c al0 al2 H1 locs1 _ _ lm C (fun a ha => (hag a (hZ a ha)).trans (hN a ha)) hP1 hD1 hS1 ⟨lv, f1, f2, fun i v hv => by
    have h4 := f3 i v hv
    cases v <;> first | exact h4 | (rename_i q; have h5 := hag q (hlr q (List.mem_of_getElem? hv)); show (i, Value.ref (al2 q)) ∈ lv; rw [h5]; exact h4)⟩ (by omega) (by omega)
theorem xa_callSA {Post : Option Value → List Nat → xa_AH → xa_AR → Prop} (hT : xa_CS M.1.cls idx M2 n) (hd : decode M.2.1 pc = .ok (.invokestatic idx, 3)) (hC : xa_CtA E M2 as L hi hr Post) (hsk : stk = as.reverse ++ st) (hn : as.length = n) (hR : M2.2.2.2.2.frames + 1 ≤ M.2.2.2.2.frames ∧ 8 + (M2.2.2.1 + 11) + M2.2.2.2.2.locals ≤ M.2.2.2.2.locals) (hw : (st.map fun v => v.category).sum ≤ 8) (hkc : M2.2.2.2.2.cells ≤ kc) (hks : M2.2.2.2.2.slots ≤ ks) (hZ : ∀ a, Z.2.2.2 a → a ∈ L) (hst : ∀ a, Value.ref a ∈ st → a ∈ L) (hlr : ∀ a, some (Value.ref a) ∈ ls → a ∈ L) (kk : ∀ (r : Option Value) (L2 : List Nat) (hi2 : xa_AH) (hr2 : xa_AR), Post r L2 hi2 hr2 → xa_W E M Z (kc - M2.2.2.2.2.cells) (ks - M2.2.2.2.2.slots) (pc + 3) ls (r.toList ++ st) L2 hi2 hr2) : xa_W E M Z kc ks pc ls stk L hi hr := by
  intro p e s m args below meth c al0 al H locs cells slots lm C hN hP hD hS hl hc hs
  subst hsk
  obtain ⟨⟨k1, k2, k3⟩, k4, k5⟩ := hT
  obtain ⟨lv, f1, f2, f3⟩ := id hl
  have hml := f1.1
  have hsk : (as.reverse ++ st).map (xa_cv al) = (as.map (xa_cv al)).reverse ++ st.map (xa_cv al) := by simp [List.map_reverse, xa_cv]
  have hA := xa_sub_own hD hS xa_own_new
  have hrun := va_runS (p := p) (l := E.1) (e := e) (below := below) (meth := meth) (locs := locs) (cells := cells) (slots := slots) (H := H) (g := F0 m pc lm ((as.reverse ++ st).map (xa_cv al))) (As := as.map (xa_cv al)) (rest := st.map (xa_cv al)) (nL := M.2.2.1) (index := idx) (bytes := M2.2.1) (maxL := M2.2.2.1) ⟨C.1, C.2.1, C.2.2.2.1, C.2.2.2.2.1, C.2.2.2.2.2.1⟩ (hC al H.size) ⟨callB_of n C.2.2.2.2.2.1 (xa_goodw ⟨k1, k2, k3⟩) rfl rfl rfl (C.2.2.2.2.2.1 _ k1) (C.2.2.2.2.2.1 _ k4) k3 hR, C.2.2.2.2.2.1 _ k5⟩ (xa_preS hP hD C.2.2.2.2.2.2.2.2.1) rfl (by rw [List.length_map]; exact hn) hml hsk (lv_room (by rw [xa_catsum]; exact hw)) hd ⟨by omega, by omega⟩
  refine xa_afterA hrun hS hA (fun al2 r L2 hi2 hr2 H1 locs1 hag hp hP1 hD1 hS1 => ?_)
  have est : st.map (xa_cv al) = st.map (xa_cv al2) := List.map_congr_left (fun v hv => by cases v <;> first | rfl | (rename_i q; show Value.ref (al q) = Value.ref (al2 q); rw [hag q (hst q hv)]))
  rw [est, xa_toList]
  exact kk r L2 hi2 hr2 hp p e s m args below meth c al0 al2 H1 locs1 _ _ lm C (fun a ha => (hag a (hZ a ha)).trans (hN a ha)) hP1 hD1 hS1 ⟨lv, f1, f2, fun i v hv => by
    have h4 := f3 i v hv
    cases v <;> first | exact h4 | (rename_i q; have h5 := hag q (hlr q (List.mem_of_getElem? hv)); show (i, Value.ref (al2 q)) ∈ lv; rw [h5]; exact h4)⟩ (by omega) (by omega)
theorem xa_callSNA {Post : Option Value → List Nat → xa_AH → xa_AR → Prop} (hT : xa_CSN M.1.cls idx M2 n) (hd : decode M.2.1 pc = .ok (.invokestatic idx, 3)) (hC : xa_CtA E M2 as L hi hr Post) (hsk : stk = as.reverse ++ st) (hn : as.length = n) (hR : M2.2.2.2.2.frames + 1 ≤ M.2.2.2.2.frames ∧ 8 + (M2.2.2.1 + 11) + M2.2.2.2.2.locals ≤ M.2.2.2.2.locals) (hw : (st.map fun v => v.category).sum ≤ 8) (hkc : M2.2.2.2.2.cells ≤ kc) (hks : M2.2.2.2.2.slots ≤ ks) (hZ : ∀ a, Z.2.2.2 a → a ∈ L) (hst : ∀ a, Value.ref a ∈ st → a ∈ L) (hlr : ∀ a, some (Value.ref a) ∈ ls → a ∈ L) (kk : ∀ (r : Option Value) (L2 : List Nat) (hi2 : xa_AH) (hr2 : xa_AR), Post r L2 hi2 hr2 → xa_W E M Z (kc - M2.2.2.2.2.cells) (ks - M2.2.2.2.2.slots) (pc + 3) ls (r.toList ++ st) L2 hi2 hr2) : xa_W E M Z kc ks pc ls stk L hi hr := by
  intro p e s m args below meth c al0 al H locs cells slots lm C hN hP hD hS hl hc hs
  subst hsk
  obtain ⟨⟨k1, k2, k3⟩, ⟨hh, k4⟩, k5⟩ := hT
  obtain ⟨lv, f1, f2, f3⟩ := id hl
  have hml := f1.1
  have hsk : (as.reverse ++ st).map (xa_cv al) = (as.map (xa_cv al)).reverse ++ st.map (xa_cv al) := by simp [List.map_reverse, xa_cv]
  have hA := xa_sub_own hD hS xa_own_new
  have hrun := va_runSN (p := p) (l := E.1) (e := e) (below := below) (meth := meth) (locs := locs) (cells := cells) (slots := slots) (H := H) (g := F0 m pc lm ((as.reverse ++ st).map (xa_cv al))) (As := as.map (xa_cv al)) (rest := st.map (xa_cv al)) (nL := M.2.2.1) (index := idx) (bytes := M2.2.1) (maxL := M2.2.2.1) ⟨C.1, C.2.1, C.2.2.2.1, C.2.2.2.2.1, C.2.2.2.2.2.1⟩ (hC al H.size) ⟨va_cnB n C.2.2.2.2.2.1 (xa_goodw ⟨k1, k2, k3⟩) rfl rfl rfl (C.2.2.2.2.2.2.2.2.1.2.1 _ k4) (C.2.2.2.2.2.1 _ k1) k3 hR, C.2.2.2.2.2.1 _ k5, trivial⟩ (xa_preS hP hD C.2.2.2.2.2.2.2.2.1) rfl (by rw [List.length_map]; exact hn) hml hsk (lv_room (by rw [xa_catsum]; exact hw)) hd ⟨by omega, by omega⟩
  refine xa_afterA hrun hS hA (fun al2 r L2 hi2 hr2 H1 locs1 hag hp hP1 hD1 hS1 => ?_)
  have est : st.map (xa_cv al) = st.map (xa_cv al2) := List.map_congr_left (fun v hv => by cases v <;> first | rfl | (rename_i q; show Value.ref (al q) = Value.ref (al2 q); rw [hag q (hst q hv)]))
  rw [est, xa_toList]
  exact kk r L2 hi2 hr2 hp p e s m args below meth c al0 al2 H1 locs1 _ _ lm C (fun a ha => (hag a (hZ a ha)).trans (hN a ha)) hP1 hD1 hS1 ⟨lv, f1, f2, fun i v hv => by
    have h4 := f3 i v hv
    cases v <;> first | exact h4 | (rename_i q; have h5 := hag q (hlr q (List.mem_of_getElem? hv)); show (i, Value.ref (al2 q)) ∈ lv; rw [h5]; exact h4)⟩ (by omega) (by omega)
theorem xa_callIA {Post : Option Value → List Nat → xa_AH → xa_AR → Prop} {b : Nat} (hT : xa_CI M.1.cls idx M2 n) (hd : decode M.2.1 pc = .ok (.invokespecial idx, 3)) (hC : xa_CtA E M2 (.ref b :: as) L hi hr Post) (hsk : stk = as.reverse ++ .ref b :: st) (hn : as.length = n) (hR : M2.2.2.2.2.frames + 1 ≤ M.2.2.2.2.frames ∧ 8 + (M2.2.2.1 + 11) + M2.2.2.2.2.locals ≤ M.2.2.2.2.locals) (hw : (st.map fun v => v.category).sum ≤ 8) (hkc : M2.2.2.2.2.cells ≤ kc) (hks : M2.2.2.2.2.slots ≤ ks) (hZ : ∀ a, Z.2.2.2 a → a ∈ L) (hst : ∀ a, Value.ref a ∈ st → a ∈ L) (hlr : ∀ a, some (Value.ref a) ∈ ls → a ∈ L) (kk : ∀ (r : Option Value) (L2 : List Nat) (hi2 : xa_AH) (hr2 : xa_AR), Post r L2 hi2 hr2 → xa_W E M Z (kc - M2.2.2.2.2.cells) (ks - M2.2.2.2.2.slots) (pc + 3) ls (r.toList ++ st) L2 hi2 hr2) : xa_W E M Z kc ks pc ls stk L hi hr := by
  intro p e s m args below meth c al0 al H locs cells slots lm C hN hP hD hS hl hc hs
  subst hsk
  obtain ⟨⟨k1, k2, k3⟩, k4, k5, k6, k7⟩ := hT
  obtain ⟨lv, f1, f2, f3⟩ := id hl
  have hml := f1.1
  have hsk : (as.reverse ++ .ref b :: st).map (xa_cv al) = (as.map (xa_cv al)).reverse ++ .ref (al b) :: st.map (xa_cv al) := by simp [List.map_reverse, xa_cv]
  have hA := xa_sub_own hD hS xa_own_new
  have hrun := va_runI (p := p) (l := E.1) (e := e) (below := below) (meth := meth) (locs := locs) (cells := cells) (slots := slots) (H := H) (g := F0 m pc lm ((as.reverse ++ .ref b :: st).map (xa_cv al))) (b := al b) (As := as.map (xa_cv al)) (rest := st.map (xa_cv al)) (nL := M.2.2.1) (index := idx) (bytes := M2.2.1) (maxL := M2.2.2.1) ⟨C.1, C.2.1, C.2.2.2.1, C.2.2.2.2.1, C.2.2.2.2.2.1⟩ (hC al H.size) ⟨callB_of n C.2.2.2.2.2.1 (xa_goodw ⟨k1, k2, k3⟩) (by show Cond.code _ _ _ M2.2.2.2.1 :: _ = _; rw [k7]) rfl rfl (C.2.2.2.2.2.1 _ k1) (C.2.2.2.2.2.1 _ k4) k3 hR, k5, C.2.2.2.2.2.1 _ k6⟩ (xa_preS hP hD C.2.2.2.2.2.2.2.2.1) rfl (by rw [List.length_map]; exact hn) hml hsk (lv_room (by rw [xa_catsum]; exact hw)) hd ⟨by omega, by omega⟩
  refine xa_afterA hrun hS hA (fun al2 r L2 hi2 hr2 H1 locs1 hag hp hP1 hD1 hS1 => ?_)
  have est : st.map (xa_cv al) = st.map (xa_cv al2) := List.map_congr_left (fun v hv => by cases v <;> first | rfl | (rename_i q; show Value.ref (al q) = Value.ref (al2 q); rw [hag q (hst q hv)]))
  rw [est, xa_toList]
  exact kk r L2 hi2 hr2 hp p e s m args below meth c al0 al2 H1 locs1 _ _ lm C (fun a ha => (hag a (hZ a ha)).trans (hN a ha)) hP1 hD1 hS1 ⟨lv, f1, f2, fun i v hv => by
    have h4 := f3 i v hv
    cases v <;> first | exact h4 | (rename_i q; have h5 := hag q (hlr q (List.mem_of_getElem? hv)); show (i, Value.ref (al2 q)) ∈ lv; rw [h5]; exact h4)⟩ (by omega) (by omega)
theorem xa_callINA {Post : Option Value → List Nat → xa_AH → xa_AR → Prop} {b : Nat} (hT : xa_CIN M.1.cls idx M2 n) (hd : decode M.2.1 pc = .ok (.invokespecial idx, 3)) (hC : xa_CtA E M2 (.ref b :: as) L hi hr Post) (hsk : stk = as.reverse ++ .ref b :: st) (hn : as.length = n) (hR : M2.2.2.2.2.frames + 1 ≤ M.2.2.2.2.frames ∧ 8 + (M2.2.2.1 + 11) + M2.2.2.2.2.locals ≤ M.2.2.2.2.locals) (hw : (st.map fun v => v.category).sum ≤ 8) (hkc : M2.2.2.2.2.cells ≤ kc) (hks : M2.2.2.2.2.slots ≤ ks) (hZ : ∀ a, Z.2.2.2 a → a ∈ L) (hst : ∀ a, Value.ref a ∈ st → a ∈ L) (hlr : ∀ a, some (Value.ref a) ∈ ls → a ∈ L) (kk : ∀ (r : Option Value) (L2 : List Nat) (hi2 : xa_AH) (hr2 : xa_AR), Post r L2 hi2 hr2 → xa_W E M Z (kc - M2.2.2.2.2.cells) (ks - M2.2.2.2.2.slots) (pc + 3) ls (r.toList ++ st) L2 hi2 hr2) : xa_W E M Z kc ks pc ls stk L hi hr := by
  intro p e s m args below meth c al0 al H locs cells slots lm C hN hP hD hS hl hc hs
  subst hsk
  obtain ⟨⟨k1, k2, k3⟩, ⟨hh, k4⟩, k5, k6, k7⟩ := hT
  obtain ⟨lv, f1, f2, f3⟩ := id hl
  have hml := f1.1
  have hsk : (as.reverse ++ .ref b :: st).map (xa_cv al) = (as.map (xa_cv al)).reverse ++ .ref (al b) :: st.map (xa_cv al) := by simp [List.map_reverse, xa_cv]
  have hA := xa_sub_own hD hS xa_own_new
  have hrun := va_runIN (p := p) (l := E.1) (e := e) (below := below) (meth := meth) (locs := locs) (cells := cells) (slots := slots) (H := H) (g := F0 m pc lm ((as.reverse ++ .ref b :: st).map (xa_cv al))) (b := al b) (As := as.map (xa_cv al)) (rest := st.map (xa_cv al)) (nL := M.2.2.1) (index := idx) (bytes := M2.2.1) (maxL := M2.2.2.1) ⟨C.1, C.2.1, C.2.2.2.1, C.2.2.2.2.1, C.2.2.2.2.2.1⟩ (hC al H.size) ⟨va_cnB n C.2.2.2.2.2.1 (xa_goodw ⟨k1, k2, k3⟩) (by show Cond.code _ _ _ M2.2.2.2.1 :: _ = _; rw [k7]) rfl rfl (C.2.2.2.2.2.2.2.2.1.2.1 _ k4) (C.2.2.2.2.2.1 _ k1) k3 hR, k5, C.2.2.2.2.2.1 _ k6⟩ (xa_preS hP hD C.2.2.2.2.2.2.2.2.1) rfl (by rw [List.length_map]; exact hn) hml hsk (lv_room (by rw [xa_catsum]; exact hw)) hd ⟨by omega, by omega⟩
  refine xa_afterA hrun hS hA (fun al2 r L2 hi2 hr2 H1 locs1 hag hp hP1 hD1 hS1 => ?_)
  have est : st.map (xa_cv al) = st.map (xa_cv al2) := List.map_congr_left (fun v hv => by cases v <;> first | rfl | (rename_i q; show Value.ref (al q) = Value.ref (al2 q); rw [hag q (hst q hv)]))
  rw [est, xa_toList]
  exact kk r L2 hi2 hr2 hp p e s m args below meth c al0 al2 H1 locs1 _ _ lm C (fun a ha => (hag a (hZ a ha)).trans (hN a ha)) hP1 hD1 hS1 ⟨lv, f1, f2, fun i v hv => by
    have h4 := f3 i v hv
    cases v <;> first | exact h4 | (rename_i q; have h5 := hag q (hlr q (List.mem_of_getElem? hv)); show (i, Value.ref (al2 q)) ∈ lv; rw [h5]; exact h4)⟩ (by omega) (by omega)
end XA7
end
section
/-! ===== new cells: the next number is the prover's choice ===== -/
def xa_zi (hi : xa_AH) (a : Nat) : xa_AH := fun x y => if x = a then 0 else hi x y
def xa_zr (hr : xa_AR) (a : Nat) : xa_AR := fun x y => if x = a then none else hr x y
def xa_la (al : Nat → Nat) (a q : Nat) : Nat → Nat := fun x => if x = a then q else al x
def xa_NC (own : String) (idx ci : Nat) : Prop := ∃ (Cn : String) (T : u_T) (N : Nat) (ty0 : Nat → FieldType), xa_cl[ci]? = some (Cn, T, N) ∧ N = xa_nT.getD ci 0 ∧ (∀ w ∈ u_ws Cn T N, w ∈ xa_G) ∧ (∀ k, k < N → parseFieldDescriptor (T k).2.2.1 = some (ty0 k)) ∧ (∀ j, j < N → defaultValue (ty0 j) = if xa_isR ci j = true then .null else .int 0) ∧ Cond.classLink own idx Cn ∈ xa_G ∧ Cond.instantiable Cn N ∈ xa_G ∧ Cond.initialized Cn ∈ xa_G
section XA8
variable {E : xa_EV} {M : xa_MC} {Z : xa_ZC} {kc ks pc : Nat} {ls : List (Option Value)} {st : List Value} {L : List Nat} {hi : xa_AH} {hr : xa_AR}
theorem xa_wd_new {dA : Nat → ClassId} {al : Nat → Nat} {a q : Nat} (ha : a ∉ L) (hfr : ∀ b k, hr b k ≠ some a) : xa_wd dA (xa_la al a q) (L ++ [a]) (xa_zi hi a) (xa_zr hr a) = xa_wd dA al L hi hr ++ [(q, xa_en dA (xa_la al a q) (xa_zi hi a) (xa_zr hr a) a)] := by
  have h1 : xa_wd dA (xa_la al a q) L (xa_zi hi a) (xa_zr hr a) = xa_wd dA al L hi hr := by
    refine List.map_congr_left (fun b hb => ?_)
    have hne : b ≠ a := fun h => ha (h ▸ hb)
    have e1 : xa_zi hi a b = hi b := by funext y; simp [xa_zi, hne]
    have e2 : ∀ k, ((xa_zr hr a) b k).map (xa_la al a q) = (hr b k).map al := by
      intro k
      have e3 : (xa_zr hr a) b k = hr b k := by simp [xa_zr, hne]
      rw [e3]
      cases hk : hr b k with
      | none => rfl
      | some c =>
        have hc : c ≠ a := fun h => hfr b k (by rw [hk, h])
        simp [xa_la, hc]
    have e4 : xa_sv (xa_la al a q) (xa_zi hi a) (xa_zr hr a) b = xa_sv al hi hr b := by
      funext k
      simp [xa_sv, e1, e2]
    simp [xa_en, e1, e2, e4, xa_la, hne]
  show List.map _ (L ++ [a]) = _
  rw [List.map_append]
  show xa_wd dA (xa_la al a q) L (xa_zi hi a) (xa_zr hr a) ++ _ = _
  rw [h1]
  simp [xa_la]
theorem xa_st_new {al : Nat → Nat} {a q : Nat} (hst : Value.ref a ∉ st) : st.map (xa_cv (xa_la al a q)) = st.map (xa_cv al) := List.map_congr_left (fun v hv => by
  cases v <;> first | rfl | (rename_i c; have hc : c ≠ a := fun h => hst (h ▸ hv); show Value.ref _ = Value.ref _; simp [xa_la, hc]))
theorem xa_cv_la {al : Nat → Nat} {a q c : Nat} (hc : c ≠ a) : xa_cv (xa_la al a q) (Value.ref c) = xa_cv al (Value.ref c) := by
  show Value.ref _ = Value.ref _
  simp [xa_la, hc]
theorem xa_lv_new {al : Nat → Nat} {a q nL : Nat} {lm : Array Slot} (hls : some (Value.ref a) ∉ ls) (h : xa_lv al nL ls lm) : xa_lv (xa_la al a q) nL ls lm := by
  obtain ⟨lv, h1, h2, h3⟩ := h
  refine ⟨lv, h1, h2, fun i v hv => ?_⟩
  have h4 := h3 i v hv
  cases v <;> first | exact h4 | (rename_i c; have hc : c ≠ a := fun h => hls (h ▸ List.mem_of_getElem? hv); rw [xa_cv_la hc]; exact h4)
theorem xa_new {idx : Nat} (a ci : Nat) (hC : xa_NC M.1.cls idx ci) (hd : decode M.2.1 pc = .ok (.new idx, 3)) (hk : xa_kd a = ci) (ha : a ∉ L) (hZ : ¬ Z.2.2.2 a) (hst : Value.ref a ∉ st) (hls : some (Value.ref a) ∉ ls) (hfr : ∀ b k, hr b k ≠ some a) (hkc : 1 ≤ kc) (hks : xa_nT.getD ci 0 ≤ ks)
    (k : xa_W E M Z (kc - 1) (ks - xa_nT.getD ci 0) (pc + 3) ls (.ref a :: st) (L ++ [a]) (xa_zi hi a) (xa_zr hr a)) : xa_W E M Z kc ks pc ls st L hi hr := by
  intro p e s m args below meth c al0 al H locs cells slots lm C hN hP hD hS hl hc hs
  obtain ⟨Cn, T, N, ty0, h1, h2, h3, h4, h5, h6, h7, h8⟩ := hC
  rw [← h2] at hks k
  refine va_new (ci := ci) (fs := (List.range N).map (fun j => if xa_isR ci j = true then .null else .int 0)) C.1 C.2.1 (Ts := xa_G) C.2.2.2.2.2.1 h3 ty0 h4 C.2.2.2.2.1 (C.2.2.2.2.2.1 _ h6) (C.2.2.2.2.2.1 _ h7) (C.2.2.2.2.2.1 _ h8) C.2.2.2.2.2.2.2.2.1.1 hP hD hS xa_own_new h1 (fun j hj => by rw [h5 j hj]; simp [vp_V, hj]) (by omega) (by omega) hd (fun q H1 hP1 hD1 hS1 => ?_)
  have e1 : (.inr (ci, (List.range N).map (fun j => if xa_isR ci j = true then Value.null else Value.int 0)) : va_E) = xa_en E.2.2 (xa_la al a q) (xa_zi hi a) (xa_zr hr a) a := by
    rw [xa_en_o hk (xa_ci h1), ← h2]
    congr 3
    funext j
    simp [xa_sv, hk, xa_zi, xa_zr, va_rf]
  rw [e1, ← xa_wd_new ha hfr] at hP1 hD1
  rw [← xa_st_new (al := al) (q := q) hst]
  have e2 : Value.ref q :: st.map (xa_cv (xa_la al a q)) = (Value.ref a :: st).map (xa_cv (xa_la al a q)) := by
    rw [List.map_cons]
    show _ = Value.ref (xa_la al a q a) :: _
    simp [xa_la]
  rw [e2]
  exact k p e s m args below meth c al0 (xa_la al a q) H1 locs _ _ lm C (fun b hb => by have hne : b ≠ a := fun h => hZ (h ▸ hb); simp [xa_la, hne, hN b hb]) hP1 hD1 hS1 (xa_lv_new hls hl) (by omega) (by omega)
theorem xa_newarr {n : Int32} {aty : ArrayType} {ty : FieldType} (a kd0 t0 : Nat) (hty : newarray.typeOf aty = ty) (hdef : defaultValue ty = .int 0) (ht0 : ∀ dA : Nat → ClassId, (xa_tys dA)[t0]? = some (dA kd0, ty)) (hra : ∀ (U : State) (x y : ClassId), va_RA U x ty → va_RA U y ty → x = y) (hen : ∀ (dA : Nat → ClassId) (al : Nat → Nat) (hi : xa_AH) (hr : xa_AR), xa_en dA al hi hr a = .inl (dA kd0, xa_ln a, .inl (hi a))) (hw : Cond.arrayClass ty ∈ xa_G) (hd : decode M.2.1 pc = .ok (.newarray aty, 2)) (hn : ¬ n < 0) (hN0 : n.toNatClampNeg = xa_ln a) (hby : xa_ln a * componentBytes ty ≤ 536870912) (ha : a ∉ L) (hZ : ¬ Z.2.2.2 a) (hst : Value.ref a ∉ st) (hls : some (Value.ref a) ∉ ls) (hfr : ∀ b k, hr b k ≠ some a) (hkc : 1 ≤ kc) (hks : xa_ln a ≤ ks)
    (k : xa_W E M Z (kc - 1) (ks - xa_ln a) (pc + 2) ls (.ref a :: st) (L ++ [a]) (xa_zi hi a) (xa_zr hr a)) : xa_W E M Z kc ks pc ls (.int n :: st) L hi hr := by
  intro p e s m args below meth c al0 al H locs cells slots lm C hN hP hD hS hl hc hs
  refine va_newa (a0 := (xa_ln a, .inl (fun _ => 0))) C.1 C.2.1 (by rw [hty]; exact C.2.2.2.2.2.1 _ hw) hty C.2.2.2.2.2.2.2.2.1.1 hP hD hS xa_own_new (fun cA => by rw [hdef]; rfl) hn hN0 hby (by omega) (by omega) hd (fun q cA H1 hK1 hP1 hD1 hS1 => ?_)
  have ec : cA = E.2.2 kd0 := hra s _ _ (hK1.2 4 (cA, ty) rfl).2 (C.2.2.2.2.2.2.2.2.1.1.2 t0 _ (ht0 _)).2
  subst ec
  have e1 : (.inl (E.2.2 kd0, (xa_ln a, .inl (fun _ => 0))) : va_E) = xa_en E.2.2 (xa_la al a q) (xa_zi hi a) (xa_zr hr a) a := by
    rw [hen]
    congr 4
    funext j
    simp [xa_zi]
  rw [e1, ← xa_wd_new ha hfr] at hP1 hD1
  show W p E.1 e M.2.2.2.2 s m args below meth c H1 locs (cells + 1) (slots + xa_ln a) (Z.1 s args below al0) (F0 m (pc + 2) lm (Value.ref q :: st.map (xa_cv al)))
  rw [← xa_st_new (al := al) (q := q) hst]
  have e2 : Value.ref q :: st.map (xa_cv (xa_la al a q)) = (Value.ref a :: st).map (xa_cv (xa_la al a q)) := by
    rw [List.map_cons]
    show _ = Value.ref (xa_la al a q a) :: _
    simp [xa_la]
  rw [e2]
  exact k p e s m args below meth c al0 (xa_la al a q) H1 locs _ _ lm C (fun b hb => by have hne : b ≠ a := fun h => hZ (h ▸ hb); simp [xa_la, hne, hN b hb]) hP1 hD1 hS1 (xa_lv_new hls hl) (by omega) (by omega)
theorem xa_newref {n : Int32} {idx : Nat} {Cn : String} (a kd0 t0 : Nat) (hcls : Cond.classLink M.1.cls idx Cn ∈ xa_G) (hao : ∀ U : State, xa_K E U → va_AO Cn U) (ht0 : ∀ dA : Nat → ClassId, (xa_tys dA)[t0]? = some (dA kd0, .object Cn)) (hk : xa_kd a = kd0) (hk1 : ¬ kd0 < 11) (hd : decode M.2.1 pc = .ok (.anewarray idx, 3)) (hn : ¬ n < 0) (hN0 : n.toNatClampNeg = xa_ln a) (hby : xa_ln a * 4 ≤ 536870912) (ha : a ∉ L) (hZ : ¬ Z.2.2.2 a) (hst : Value.ref a ∉ st) (hls : some (Value.ref a) ∉ ls) (hfr : ∀ b k, hr b k ≠ some a) (hkc : 1 ≤ kc) (hks : xa_ln a ≤ ks)
    (k : xa_W E M Z (kc - 1) (ks - xa_ln a) (pc + 3) ls (.ref a :: st) (L ++ [a]) (xa_zi hi a) (xa_zr hr a)) : xa_W E M Z kc ks pc ls (.int n :: st) L hi hr := by
  intro p e s m args below meth c al0 al H locs cells slots lm C hN hP hD hS hl hc hs
  refine va_newq C.1 C.2.1 C.2.2.2.2.1 (C.2.2.2.2.2.1 _ hcls) (hao s C.2.2.2.2.2.2.2.2.1) C.2.2.2.2.2.2.2.2.1.1 hP hD hS xa_own_new hn hN0 hby (by omega) (by omega) hd (fun q cA H1 hK1 hP1 hD1 hS1 => ?_)
  have ec : cA = E.2.2 kd0 := by
    obtain ⟨_, _, _, _, _, f1⟩ := (hK1.2 4 (cA, .object Cn) rfl).2
    obtain ⟨_, _, _, _, _, f2⟩ := (C.2.2.2.2.2.2.2.2.1.1.2 t0 _ (ht0 _)).2
    exact Option.some.inj (f1.symm.trans f2)
  subst ec
  have e1 : (.inl (E.2.2 kd0, (xa_ln a, .inr (.inr (.inr (.inr (fun _ => none)))))) : va_E) = xa_en E.2.2 (xa_la al a q) (xa_zi hi a) (xa_zr hr a) a := by
    rw [xa_en_r hk hk1]
    congr 7
    funext j
    simp [xa_zr]
  rw [e1, ← xa_wd_new ha hfr] at hP1 hD1
  show W p E.1 e M.2.2.2.2 s m args below meth c H1 locs (cells + 1) (slots + xa_ln a) (Z.1 s args below al0) (F0 m (pc + 3) lm (Value.ref q :: st.map (xa_cv al)))
  rw [← xa_st_new (al := al) (q := q) hst]
  have e2 : Value.ref q :: st.map (xa_cv (xa_la al a q)) = (Value.ref a :: st).map (xa_cv (xa_la al a q)) := by
    rw [List.map_cons]
    show _ = Value.ref (xa_la al a q a) :: _
    simp [xa_la]
  rw [e2]
  exact k p e s m args below meth c al0 (xa_la al a q) H1 locs _ _ lm C (fun b hb => by have hne : b ≠ a := fun h => hZ (h ▸ hb); simp [xa_la, hne, hN b hb]) hP1 hD1 hS1 (xa_lv_new hls hl) (by omega) (by omega)
end XA8
end
section
/-! links of fields, calls and classes, by their places in the tables -/
set_option maxRecDepth 20000 in
theorem xa_t1 (n : Nat) {w : Cond} (h : tables_1_1[n]? = some w) : w ∈ tables_1 := List.mem_append_left _ (List.mem_of_getElem? h)
set_option maxRecDepth 20000 in
theorem xa_t2 (n : Nat) {w : Cond} (h : tables_1_2[n]? = some w) : w ∈ tables_1 := List.mem_append_right _ (List.mem_append_left _ (List.mem_of_getElem? h))
set_option maxRecDepth 20000 in
theorem xa_t3 (n : Nat) {w : Cond} (h : tables_1_3[n]? = some w) : w ∈ tables_1 := List.mem_append_right _ (List.mem_append_right _ (List.mem_append_left _ (List.mem_of_getElem? h)))
set_option maxRecDepth 20000 in
theorem xa_t4 (n : Nat) {w : Cond} (h : tables_1_4[n]? = some w) : w ∈ tables_1 := List.mem_append_right _ (List.mem_append_right _ (List.mem_append_right _ (List.mem_append_left _ (List.mem_of_getElem? h))))
set_option maxRecDepth 20000 in
theorem xa_t5 (n : Nat) {w : Cond} (h : tables_1_5[n]? = some w) : w ∈ tables_1 := List.mem_append_right _ (List.mem_append_right _ (List.mem_append_right _ (List.mem_append_right _ (List.mem_append_left _ (List.mem_of_getElem? h)))))
set_option maxRecDepth 20000 in
theorem xa_t6 (n : Nat) {w : Cond} (h : tables_1_6[n]? = some w) : w ∈ tables_1 := List.mem_append_right _ (List.mem_append_right _ (List.mem_append_right _ (List.mem_append_right _ (List.mem_append_right _ ((List.mem_of_getElem? h))))))
set_option maxRecDepth 20000 in
theorem tb1 : (Jvm.Cond.initialized "WhoIsThere") ∈ xa_G := List.mem_filter.mpr ⟨List.mem_append_right _ (xa_t1 1 rfl), rfl⟩
set_option maxRecDepth 20000 in
theorem tb2 : (Jvm.Cond.initialized "WhoIsThereModel") ∈ xa_G := List.mem_filter.mpr ⟨List.mem_append_right _ (xa_t1 2 rfl), rfl⟩
set_option maxRecDepth 20000 in
theorem tb3 : (Jvm.Cond.initialized "WhoIsThere$Host") ∈ xa_G := List.mem_filter.mpr ⟨List.mem_append_right _ (xa_t1 3 rfl), rfl⟩
set_option maxRecDepth 20000 in
theorem tb4 : (Jvm.Cond.initialized "WhoIsThere$Store") ∈ xa_G := List.mem_filter.mpr ⟨List.mem_append_right _ (xa_t1 4 rfl), rfl⟩
set_option maxRecDepth 20000 in
theorem tb5 : (Jvm.Cond.initialized "WhoIsThere$Asks") ∈ xa_G := List.mem_filter.mpr ⟨List.mem_append_right _ (xa_t1 5 rfl), rfl⟩
set_option maxRecDepth 20000 in
theorem tb6 : (Jvm.Cond.initialized "WhoIsThere$Answers") ∈ xa_G := List.mem_filter.mpr ⟨List.mem_append_right _ (xa_t1 6 rfl), rfl⟩
set_option maxRecDepth 20000 in
theorem tb7 : (Jvm.Cond.initialized "WhoIsThere$Letter") ∈ xa_G := List.mem_filter.mpr ⟨List.mem_append_right _ (xa_t1 7 rfl), rfl⟩
set_option maxRecDepth 20000 in
theorem tb8 : (Jvm.Cond.initialized "WhoIsThere$Service") ∈ xa_G := List.mem_filter.mpr ⟨List.mem_append_right _ (xa_t1 8 rfl), rfl⟩
set_option maxRecDepth 20000 in
theorem tb9 : (Jvm.Cond.initialized "WhoIsThere$Bridge") ∈ xa_G := List.mem_filter.mpr ⟨List.mem_append_right _ (xa_t1 9 rfl), rfl⟩
set_option maxRecDepth 20000 in
theorem tb10 : (Jvm.Cond.initialized "java/lang/Integer") ∈ xa_G := List.mem_filter.mpr ⟨List.mem_append_right _ (xa_t1 10 rfl), rfl⟩
set_option maxRecDepth 20000 in
theorem tb11 : (Jvm.Cond.classLink "WhoIsThereLaw" (7 : Nat) "WhoIsThere") ∈ xa_G := List.mem_filter.mpr ⟨List.mem_append_right _ (xa_t1 11 rfl), rfl⟩
set_option maxRecDepth 20000 in
theorem tb12 : (Jvm.Cond.instantiable "WhoIsThere" (13 : Nat)) ∈ xa_G := List.mem_filter.mpr ⟨List.mem_append_right _ (xa_t1 12 rfl), rfl⟩
set_option maxRecDepth 20000 in
theorem tb13 : (Jvm.Cond.methodLink "WhoIsThereLaw" (9 : Nat) ({ cls := "WhoIsThere", name := "<init>", desc := "()V" } : Jvm.MethodName)) ∈ xa_G := List.mem_filter.mpr ⟨List.mem_append_right _ (xa_t1 13 rfl), rfl⟩
set_option maxRecDepth 20000 in
theorem tb14 : (Jvm.Cond.instanceMethod ({ cls := "WhoIsThere", name := "<init>", desc := "()V" } : Jvm.MethodName)) ∈ xa_G := List.mem_filter.mpr ⟨List.mem_append_right _ (xa_t1 14 rfl), rfl⟩
set_option maxRecDepth 20000 in
theorem tb15 : (Jvm.Cond.code ({ cls := "WhoIsThere", name := "<init>", desc := "()V" } : Jvm.MethodName) prog_1_method_1_code (1 : Nat) (Option.none : Option FieldType)) ∈ xa_G := List.mem_filter.mpr ⟨List.mem_append_right _ (xa_t1 15 rfl), rfl⟩
set_option maxRecDepth 20000 in
theorem tb16 : (Jvm.Cond.methodLink "WhoIsThere" (1 : Nat) ({ cls := "java/lang/Object", name := "<init>", desc := "()V" } : Jvm.MethodName)) ∈ xa_G := List.mem_filter.mpr ⟨List.mem_append_right _ (xa_t1 16 rfl), rfl⟩
set_option maxRecDepth 20000 in
theorem tb17 : (Jvm.Cond.instanceMethod ({ cls := "java/lang/Object", name := "<init>", desc := "()V" } : Jvm.MethodName)) ∈ xa_G := List.mem_filter.mpr ⟨List.mem_append_right _ (xa_t1 17 rfl), rfl⟩
set_option maxRecDepth 20000 in
theorem tb18 : (Jvm.Cond.code ({ cls := "java/lang/Object", name := "<init>", desc := "()V" } : Jvm.MethodName) object_method_1_code (1 : Nat) (Option.none : Option FieldType)) ∈ xa_G := List.mem_filter.mpr ⟨List.mem_append_right _ (xa_t1 18 rfl), rfl⟩
set_option maxRecDepth 20000 in
theorem tb19 : (Jvm.Cond.classLink "WhoIsThere" (9 : Nat) "WhoIsThere$Host") ∈ xa_G := List.mem_filter.mpr ⟨List.mem_append_right _ (xa_t1 19 rfl), rfl⟩
set_option maxRecDepth 20000 in
theorem tb21 : (Jvm.Cond.classLink "WhoIsThere" (15 : Nat) "WhoIsThere$Service") ∈ xa_G := List.mem_filter.mpr ⟨List.mem_append_right _ (xa_t1 21 rfl), rfl⟩
set_option maxRecDepth 20000 in
theorem tb23 : (Jvm.Cond.fieldLink "WhoIsThere" (11 : Nat) "WhoIsThere" "hosts" "[LWhoIsThere$Host;") ∈ xa_G := List.mem_filter.mpr ⟨List.mem_append_right _ (xa_t1 23 rfl), rfl⟩
set_option maxRecDepth 20000 in
theorem tb24 : (Jvm.Cond.fieldLink "WhoIsThere" (17 : Nat) "WhoIsThere" "services" "[LWhoIsThere$Service;") ∈ xa_G := List.mem_filter.mpr ⟨List.mem_append_right _ (xa_t1 24 rfl), rfl⟩
set_option maxRecDepth 20000 in
theorem tb25 : (Jvm.Cond.fieldLink "WhoIsThere" (25 : Nat) "WhoIsThere" "hostCount" "I") ∈ xa_G := List.mem_filter.mpr ⟨List.mem_append_right _ (xa_t1 25 rfl), rfl⟩
set_option maxRecDepth 20000 in
theorem tb26 : (Jvm.Cond.fieldLink "WhoIsThere" (103 : Nat) "WhoIsThere" "serviceCount" "I") ∈ xa_G := List.mem_filter.mpr ⟨List.mem_append_right _ (xa_t1 26 rfl), rfl⟩
set_option maxRecDepth 20000 in
theorem tb27 : (Jvm.Cond.fieldLink "WhoIsThere" (62 : Nat) "WhoIsThere" "now" "I") ∈ xa_G := List.mem_filter.mpr ⟨List.mem_append_right _ (xa_t1 27 rfl), rfl⟩
set_option maxRecDepth 20000 in
theorem tb28 : (Jvm.Cond.fieldLink "WhoIsThere" (226 : Nat) "WhoIsThere" "letters" "I") ∈ xa_G := List.mem_filter.mpr ⟨List.mem_append_right _ (xa_t1 28 rfl), rfl⟩
set_option maxRecDepth 20000 in
theorem tb29 : (Jvm.Cond.fieldLink "WhoIsThere" (244 : Nat) "WhoIsThere" "lettersLately" "I") ∈ xa_G := List.mem_filter.mpr ⟨List.mem_append_right _ (xa_t1 29 rfl), rfl⟩
set_option maxRecDepth 20000 in
theorem tb30 : (Jvm.Cond.fieldLink "WhoIsThere" (229 : Nat) "WhoIsThere" "lost" "I") ∈ xa_G := List.mem_filter.mpr ⟨List.mem_append_right _ (xa_t1 30 rfl), rfl⟩
set_option maxRecDepth 20000 in
theorem tb31 : (Jvm.Cond.fieldLink "WhoIsThere" (232 : Nat) "WhoIsThere" "yields" "I") ∈ xa_G := List.mem_filter.mpr ⟨List.mem_append_right _ (xa_t1 31 rfl), rfl⟩
set_option maxRecDepth 20000 in
theorem tb32 : (Jvm.Cond.fieldLink "WhoIsThere" (235 : Nat) "WhoIsThere" "lies" "I") ∈ xa_G := List.mem_filter.mpr ⟨List.mem_append_right _ (xa_t1 32 rfl), rfl⟩
set_option maxRecDepth 20000 in
theorem tb33 : (Jvm.Cond.fieldLink "WhoIsThere" (238 : Nat) "WhoIsThere" "leftOut" "I") ∈ xa_G := List.mem_filter.mpr ⟨List.mem_append_right _ (xa_t1 33 rfl), rfl⟩
set_option maxRecDepth 20000 in
theorem tb34 : (Jvm.Cond.fieldLink "WhoIsThere" (241 : Nat) "WhoIsThere" "woken" "I") ∈ xa_G := List.mem_filter.mpr ⟨List.mem_append_right _ (xa_t1 34 rfl), rfl⟩
set_option maxRecDepth 20000 in
theorem tb35 : (Jvm.Cond.fieldLink "WhoIsThere" (247 : Nat) "WhoIsThere" "takenUp" "I") ∈ xa_G := List.mem_filter.mpr ⟨List.mem_append_right _ (xa_t1 35 rfl), rfl⟩
set_option maxRecDepth 20000 in
theorem tb63 : (Jvm.Cond.methodLink "WhoIsThereLaw" (13 : Nat) ({ cls := "WhoIsThere", name := "host", desc := "(IIII)I" } : Jvm.MethodName)) ∈ xa_G := List.mem_filter.mpr ⟨List.mem_append_right _ (xa_t1 63 rfl), rfl⟩
set_option maxRecDepth 20000 in
theorem tb64 : (Jvm.Cond.instanceMethod ({ cls := "WhoIsThere", name := "host", desc := "(IIII)I" } : Jvm.MethodName)) ∈ xa_G := List.mem_filter.mpr ⟨List.mem_append_right _ (xa_t1 64 rfl), rfl⟩
set_option maxRecDepth 20000 in
theorem tb65 : (Jvm.Cond.selects "WhoIsThere" ({ cls := "WhoIsThere", name := "host", desc := "(IIII)I" } : Jvm.MethodName) ({ cls := "WhoIsThere", name := "host", desc := "(IIII)I" } : Jvm.MethodName)) ∈ xa_G := List.mem_filter.mpr ⟨List.mem_append_right _ (xa_t1 65 rfl), rfl⟩
set_option maxRecDepth 20000 in
theorem tb66 : (Jvm.Cond.code ({ cls := "WhoIsThere", name := "host", desc := "(IIII)I" } : Jvm.MethodName) prog_1_method_2_code (7 : Nat) (Option.some FieldType.int)) ∈ xa_G := List.mem_filter.mpr ⟨List.mem_append_right _ (xa_t1 66 rfl), rfl⟩
set_option maxRecDepth 20000 in
theorem tb67 : (Jvm.Cond.methodLink "WhoIsThere" (21 : Nat) ({ cls := "WhoIsThere", name := "isNet", desc := "(I)Z" } : Jvm.MethodName)) ∈ xa_G := List.mem_filter.mpr ⟨List.mem_append_right _ (xa_t1 67 rfl), rfl⟩
set_option maxRecDepth 20000 in
theorem tb68 : (Jvm.Cond.static ({ cls := "WhoIsThere", name := "isNet", desc := "(I)Z" } : Jvm.MethodName)) ∈ xa_G := List.mem_filter.mpr ⟨List.mem_append_right _ (xa_t1 68 rfl), rfl⟩
set_option maxRecDepth 20000 in
theorem tb69 : (Jvm.Cond.code ({ cls := "WhoIsThere", name := "isNet", desc := "(I)Z" } : Jvm.MethodName) prog_1_method_25_code (1 : Nat) (Option.some FieldType.boolean)) ∈ xa_G := List.mem_filter.mpr ⟨List.mem_append_right _ (xa_t1 69 rfl), rfl⟩
set_option maxRecDepth 20000 in
theorem tb70 : (Jvm.Cond.instantiable "WhoIsThere$Host" (16 : Nat)) ∈ xa_G := List.mem_filter.mpr ⟨List.mem_append_right _ (xa_t1 70 rfl), rfl⟩
set_option maxRecDepth 20000 in
theorem tb71 : (Jvm.Cond.methodLink "WhoIsThere" (29 : Nat) ({ cls := "WhoIsThere$Host", name := "<init>", desc := "(IIIII)V" } : Jvm.MethodName)) ∈ xa_G := List.mem_filter.mpr ⟨List.mem_append_right _ (xa_t1 71 rfl), rfl⟩
set_option maxRecDepth 20000 in
theorem tb72 : (Jvm.Cond.instanceMethod ({ cls := "WhoIsThere$Host", name := "<init>", desc := "(IIIII)V" } : Jvm.MethodName)) ∈ xa_G := List.mem_filter.mpr ⟨List.mem_append_right _ (xa_t1 72 rfl), rfl⟩
set_option maxRecDepth 20000 in
theorem tb73 : (Jvm.Cond.code ({ cls := "WhoIsThere$Host", name := "<init>", desc := "(IIIII)V" } : Jvm.MethodName) prog_5_method_1_code (6 : Nat) (Option.none : Option FieldType)) ∈ xa_G := List.mem_filter.mpr ⟨List.mem_append_right _ (xa_t1 73 rfl), rfl⟩
set_option maxRecDepth 20000 in
theorem tb74 : (Jvm.Cond.methodLink "WhoIsThere$Host" (3 : Nat) ({ cls := "java/lang/Object", name := "<init>", desc := "()V" } : Jvm.MethodName)) ∈ xa_G := List.mem_filter.mpr ⟨List.mem_append_right _ (xa_t1 74 rfl), rfl⟩
set_option maxRecDepth 20000 in
theorem tb75 : (Jvm.Cond.classLink "WhoIsThere$Host" (9 : Nat) "WhoIsThere$Store") ∈ xa_G := List.mem_filter.mpr ⟨List.mem_append_right _ (xa_t1 75 rfl), rfl⟩
set_option maxRecDepth 20000 in
theorem tb76 : (Jvm.Cond.instantiable "WhoIsThere$Store" (5 : Nat)) ∈ xa_G := List.mem_filter.mpr ⟨List.mem_append_right _ (xa_t1 76 rfl), rfl⟩
set_option maxRecDepth 20000 in
theorem tb78 : (Jvm.Cond.instanceMethod ({ cls := "WhoIsThere$Store", name := "<init>", desc := "()V" } : Jvm.MethodName)) ∈ xa_G := List.mem_filter.mpr ⟨List.mem_append_right _ (xa_t1 78 rfl), rfl⟩
set_option maxRecDepth 20000 in
theorem tb79 : (Jvm.Cond.code ({ cls := "WhoIsThere$Store", name := "<init>", desc := "()V" } : Jvm.MethodName) prog_8_method_1_code (1 : Nat) (Option.none : Option FieldType)) ∈ xa_G := List.mem_filter.mpr ⟨List.mem_append_right _ (xa_t1 79 rfl), rfl⟩
set_option maxRecDepth 20000 in
theorem tb80 : (Jvm.Cond.methodLink "WhoIsThere$Store" (3 : Nat) ({ cls := "java/lang/Object", name := "<init>", desc := "()V" } : Jvm.MethodName)) ∈ xa_G := List.mem_filter.mpr ⟨List.mem_append_right _ (xa_t1 80 rfl), rfl⟩
set_option maxRecDepth 20000 in
theorem tb81 : (Jvm.Cond.fieldLink "WhoIsThere$Store" (9 : Nat) "WhoIsThere$Store" "name" "[I") ∈ xa_G := List.mem_filter.mpr ⟨List.mem_append_right _ (xa_t1 81 rfl), rfl⟩
set_option maxRecDepth 20000 in
theorem tb82 : (Jvm.Cond.fieldLink "WhoIsThere" (184 : Nat) "WhoIsThere$Store" "name" "[I") ∈ xa_G := List.mem_filter.mpr ⟨List.mem_append_right _ (xa_t1 82 rfl), rfl⟩
set_option maxRecDepth 20000 in
theorem tb83 : (Jvm.Cond.fieldLink "WhoIsThere$Store" (15 : Nat) "WhoIsThere$Store" "marks" "[I") ∈ xa_G := List.mem_filter.mpr ⟨List.mem_append_right _ (xa_t1 83 rfl), rfl⟩
set_option maxRecDepth 20000 in
theorem tb84 : (Jvm.Cond.fieldLink "WhoIsThere" (192 : Nat) "WhoIsThere$Store" "marks" "[I") ∈ xa_G := List.mem_filter.mpr ⟨List.mem_append_right _ (xa_t1 84 rfl), rfl⟩
set_option maxRecDepth 20000 in
theorem tb85 : (Jvm.Cond.fieldLink "WhoIsThere$Store" (18 : Nat) "WhoIsThere$Store" "life" "[I") ∈ xa_G := List.mem_filter.mpr ⟨List.mem_append_right _ (xa_t1 85 rfl), rfl⟩
set_option maxRecDepth 20000 in
theorem tb86 : (Jvm.Cond.fieldLink "WhoIsThere" (198 : Nat) "WhoIsThere$Store" "life" "[I") ∈ xa_G := List.mem_filter.mpr ⟨List.mem_append_right _ (xa_t1 86 rfl), rfl⟩
set_option maxRecDepth 20000 in
theorem tb87 : (Jvm.Cond.fieldLink "WhoIsThere$Store" (21 : Nat) "WhoIsThere$Store" "end" "[I") ∈ xa_G := List.mem_filter.mpr ⟨List.mem_append_right _ (xa_t1 87 rfl), rfl⟩
set_option maxRecDepth 20000 in
theorem tb88 : (Jvm.Cond.fieldLink "WhoIsThere$Store" (24 : Nat) "WhoIsThere$Store" "held" "I") ∈ xa_G := List.mem_filter.mpr ⟨List.mem_append_right _ (xa_t1 88 rfl), rfl⟩
set_option maxRecDepth 20000 in
theorem tb100 : (Jvm.Cond.arrayClass FieldType.int) ∈ xa_G := List.mem_filter.mpr ⟨List.mem_append_right _ (xa_t1 100 rfl), rfl⟩
set_option maxRecDepth 20000 in
theorem tb101 : (Jvm.Cond.classLink "WhoIsThere$Host" (18 : Nat) "WhoIsThere$Asks") ∈ xa_G := List.mem_filter.mpr ⟨List.mem_append_right _ (xa_t1 101 rfl), rfl⟩
set_option maxRecDepth 20000 in
theorem tb102 : (Jvm.Cond.instantiable "WhoIsThere$Asks" (3 : Nat)) ∈ xa_G := List.mem_filter.mpr ⟨List.mem_append_right _ (xa_t1 102 rfl), rfl⟩
set_option maxRecDepth 20000 in
theorem tb104 : (Jvm.Cond.instanceMethod ({ cls := "WhoIsThere$Asks", name := "<init>", desc := "()V" } : Jvm.MethodName)) ∈ xa_G := List.mem_filter.mpr ⟨List.mem_append_right _ (xa_t1 104 rfl), rfl⟩
set_option maxRecDepth 20000 in
theorem tb105 : (Jvm.Cond.code ({ cls := "WhoIsThere$Asks", name := "<init>", desc := "()V" } : Jvm.MethodName) prog_3_method_1_code (1 : Nat) (Option.none : Option FieldType)) ∈ xa_G := List.mem_filter.mpr ⟨List.mem_append_right _ (xa_t1 105 rfl), rfl⟩
set_option maxRecDepth 20000 in
theorem tb106 : (Jvm.Cond.methodLink "WhoIsThere$Asks" (3 : Nat) ({ cls := "java/lang/Object", name := "<init>", desc := "()V" } : Jvm.MethodName)) ∈ xa_G := List.mem_filter.mpr ⟨List.mem_append_right _ (xa_t1 106 rfl), rfl⟩
set_option maxRecDepth 20000 in
theorem tb107 : (Jvm.Cond.fieldLink "WhoIsThere$Asks" (9 : Nat) "WhoIsThere$Asks" "marks" "[I") ∈ xa_G := List.mem_filter.mpr ⟨List.mem_append_right _ (xa_t1 107 rfl), rfl⟩
set_option maxRecDepth 20000 in
theorem tb108 : (Jvm.Cond.fieldLink "WhoIsThere" (305 : Nat) "WhoIsThere$Asks" "marks" "[I") ∈ xa_G := List.mem_filter.mpr ⟨List.mem_append_right _ (xa_t1 108 rfl), rfl⟩
set_option maxRecDepth 20000 in
theorem tb109 : (Jvm.Cond.fieldLink "WhoIsThere$Asks" (15 : Nat) "WhoIsThere$Asks" "due" "[I") ∈ xa_G := List.mem_filter.mpr ⟨List.mem_append_right _ (xa_t1 109 rfl), rfl⟩
set_option maxRecDepth 20000 in
theorem tb110 : (Jvm.Cond.fieldLink "WhoIsThere$Asks" (18 : Nat) "WhoIsThere$Asks" "waiting" "I") ∈ xa_G := List.mem_filter.mpr ⟨List.mem_append_right _ (xa_t1 110 rfl), rfl⟩
set_option maxRecDepth 20000 in
theorem tb118 : (Jvm.Cond.classLink "WhoIsThere$Host" (25 : Nat) "WhoIsThere$Answers") ∈ xa_G := List.mem_filter.mpr ⟨List.mem_append_right _ (xa_t1 118 rfl), rfl⟩
set_option maxRecDepth 20000 in
theorem tb119 : (Jvm.Cond.instantiable "WhoIsThere$Answers" (2 : Nat)) ∈ xa_G := List.mem_filter.mpr ⟨List.mem_append_right _ (xa_t1 119 rfl), rfl⟩
set_option maxRecDepth 20000 in
theorem tb121 : (Jvm.Cond.instanceMethod ({ cls := "WhoIsThere$Answers", name := "<init>", desc := "()V" } : Jvm.MethodName)) ∈ xa_G := List.mem_filter.mpr ⟨List.mem_append_right _ (xa_t1 121 rfl), rfl⟩
set_option maxRecDepth 20000 in
theorem tb122 : (Jvm.Cond.code ({ cls := "WhoIsThere$Answers", name := "<init>", desc := "()V" } : Jvm.MethodName) prog_2_method_1_code (1 : Nat) (Option.none : Option FieldType)) ∈ xa_G := List.mem_filter.mpr ⟨List.mem_append_right _ (xa_t1 122 rfl), rfl⟩
set_option maxRecDepth 20000 in
theorem tb123 : (Jvm.Cond.methodLink "WhoIsThere$Answers" (3 : Nat) ({ cls := "java/lang/Object", name := "<init>", desc := "()V" } : Jvm.MethodName)) ∈ xa_G := List.mem_filter.mpr ⟨List.mem_append_right _ (xa_t1 123 rfl), rfl⟩
set_option maxRecDepth 20000 in
theorem tb124 : (Jvm.Cond.fieldLink "WhoIsThere$Answers" (9 : Nat) "WhoIsThere$Answers" "due" "[I") ∈ xa_G := List.mem_filter.mpr ⟨List.mem_append_right _ (xa_t1 124 rfl), rfl⟩
set_option maxRecDepth 20000 in
theorem tb125 : (Jvm.Cond.fieldLink "WhoIsThere$Answers" (15 : Nat) "WhoIsThere$Answers" "waiting" "I") ∈ xa_G := List.mem_filter.mpr ⟨List.mem_append_right _ (xa_t1 125 rfl), rfl⟩
set_option maxRecDepth 20000 in
theorem tb131 : (Jvm.Cond.classLink "WhoIsThere$Host" (36 : Nat) "WhoIsThere$Letter") ∈ xa_G := List.mem_filter.mpr ⟨List.mem_append_right _ (xa_t1 131 rfl), rfl⟩
set_option maxRecDepth 20000 in
theorem tb132 : (Jvm.Cond.instantiable "WhoIsThere$Letter" (15 : Nat)) ∈ xa_G := List.mem_filter.mpr ⟨List.mem_append_right _ (xa_t1 132 rfl), rfl⟩
set_option maxRecDepth 20000 in
theorem tb134 : (Jvm.Cond.instanceMethod ({ cls := "WhoIsThere$Letter", name := "<init>", desc := "()V" } : Jvm.MethodName)) ∈ xa_G := List.mem_filter.mpr ⟨List.mem_append_right _ (xa_t1 134 rfl), rfl⟩
set_option maxRecDepth 20000 in
theorem tb135 : (Jvm.Cond.code ({ cls := "WhoIsThere$Letter", name := "<init>", desc := "()V" } : Jvm.MethodName) prog_6_method_1_code (1 : Nat) (Option.none : Option FieldType)) ∈ xa_G := List.mem_filter.mpr ⟨List.mem_append_right _ (xa_t1 135 rfl), rfl⟩
set_option maxRecDepth 20000 in
theorem tb136 : (Jvm.Cond.methodLink "WhoIsThere$Letter" (3 : Nat) ({ cls := "java/lang/Object", name := "<init>", desc := "()V" } : Jvm.MethodName)) ∈ xa_G := List.mem_filter.mpr ⟨List.mem_append_right _ (xa_t1 136 rfl), rfl⟩
set_option maxRecDepth 20000 in
theorem tb137 : (Jvm.Cond.fieldLink "WhoIsThere$Letter" (65 : Nat) "WhoIsThere$Letter" "net" "I") ∈ xa_G := List.mem_filter.mpr ⟨List.mem_append_right _ (xa_t1 137 rfl), rfl⟩
set_option maxRecDepth 20000 in
theorem tb138 : (Jvm.Cond.fieldLink "WhoIsThere" (348 : Nat) "WhoIsThere$Letter" "net" "I") ∈ xa_G := List.mem_filter.mpr ⟨List.mem_append_right _ (xa_t1 138 rfl), rfl⟩
set_option maxRecDepth 20000 in
theorem tb139 : (Jvm.Cond.fieldLink "WhoIsThere$Letter" (42 : Nat) "WhoIsThere$Letter" "asks" "I") ∈ xa_G := List.mem_filter.mpr ⟨List.mem_append_right _ (xa_t1 139 rfl), rfl⟩
set_option maxRecDepth 20000 in
theorem tb140 : (Jvm.Cond.fieldLink "WhoIsThere" (372 : Nat) "WhoIsThere$Letter" "asks" "I") ∈ xa_G := List.mem_filter.mpr ⟨List.mem_append_right _ (xa_t1 140 rfl), rfl⟩
set_option maxRecDepth 20000 in
theorem tb141 : (Jvm.Cond.fieldLink "WhoIsThere$Letter" (9 : Nat) "WhoIsThere$Letter" "askMarks" "[I") ∈ xa_G := List.mem_filter.mpr ⟨List.mem_append_right _ (xa_t1 141 rfl), rfl⟩
set_option maxRecDepth 20000 in
theorem tb142 : (Jvm.Cond.fieldLink "WhoIsThere" (420 : Nat) "WhoIsThere$Letter" "askMarks" "[I") ∈ xa_G := List.mem_filter.mpr ⟨List.mem_append_right _ (xa_t1 142 rfl), rfl⟩
set_option maxRecDepth 20000 in
theorem tb143 : (Jvm.Cond.fieldLink "WhoIsThere$Letter" (15 : Nat) "WhoIsThere$Letter" "askKnown" "[I") ∈ xa_G := List.mem_filter.mpr ⟨List.mem_append_right _ (xa_t1 143 rfl), rfl⟩
set_option maxRecDepth 20000 in
theorem tb144 : (Jvm.Cond.fieldLink "WhoIsThere" (423 : Nat) "WhoIsThere$Letter" "askKnown" "[I") ∈ xa_G := List.mem_filter.mpr ⟨List.mem_append_right _ (xa_t1 144 rfl), rfl⟩
set_option maxRecDepth 20000 in
theorem tb145 : (Jvm.Cond.fieldLink "WhoIsThere$Letter" (18 : Nat) "WhoIsThere$Letter" "askBorne" "[I") ∈ xa_G := List.mem_filter.mpr ⟨List.mem_append_right _ (xa_t1 145 rfl), rfl⟩
set_option maxRecDepth 20000 in
theorem tb146 : (Jvm.Cond.fieldLink "WhoIsThere$Letter" (46 : Nat) "WhoIsThere$Letter" "claims" "I") ∈ xa_G := List.mem_filter.mpr ⟨List.mem_append_right _ (xa_t1 146 rfl), rfl⟩
set_option maxRecDepth 20000 in
theorem tb147 : (Jvm.Cond.fieldLink "WhoIsThere" (365 : Nat) "WhoIsThere$Letter" "claims" "I") ∈ xa_G := List.mem_filter.mpr ⟨List.mem_append_right _ (xa_t1 147 rfl), rfl⟩
set_option maxRecDepth 20000 in
theorem tb148 : (Jvm.Cond.fieldLink "WhoIsThere$Letter" (21 : Nat) "WhoIsThere$Letter" "claimName" "[I") ∈ xa_G := List.mem_filter.mpr ⟨List.mem_append_right _ (xa_t1 148 rfl), rfl⟩
set_option maxRecDepth 20000 in
theorem tb149 : (Jvm.Cond.fieldLink "WhoIsThere" (403 : Nat) "WhoIsThere$Letter" "claimName" "[I") ∈ xa_G := List.mem_filter.mpr ⟨List.mem_append_right _ (xa_t1 149 rfl), rfl⟩
set_option maxRecDepth 20000 in
theorem tb150 : (Jvm.Cond.fieldLink "WhoIsThere$Letter" (24 : Nat) "WhoIsThere$Letter" "claimBorne" "[I") ∈ xa_G := List.mem_filter.mpr ⟨List.mem_append_right _ (xa_t1 150 rfl), rfl⟩
set_option maxRecDepth 20000 in
theorem tb151 : (Jvm.Cond.fieldLink "WhoIsThere$Letter" (49 : Nat) "WhoIsThere$Letter" "byes" "I") ∈ xa_G := List.mem_filter.mpr ⟨List.mem_append_right _ (xa_t1 151 rfl), rfl⟩
set_option maxRecDepth 20000 in
theorem tb152 : (Jvm.Cond.fieldLink "WhoIsThere" (366 : Nat) "WhoIsThere$Letter" "byes" "I") ∈ xa_G := List.mem_filter.mpr ⟨List.mem_append_right _ (xa_t1 152 rfl), rfl⟩
set_option maxRecDepth 20000 in
theorem tb153 : (Jvm.Cond.fieldLink "WhoIsThere$Letter" (27 : Nat) "WhoIsThere$Letter" "byeBorne" "[I") ∈ xa_G := List.mem_filter.mpr ⟨List.mem_append_right _ (xa_t1 153 rfl), rfl⟩
set_option maxRecDepth 20000 in
theorem tb154 : (Jvm.Cond.fieldLink "WhoIsThere$Letter" (52 : Nat) "WhoIsThere$Letter" "tellings" "I") ∈ xa_G := List.mem_filter.mpr ⟨List.mem_append_right _ (xa_t1 154 rfl), rfl⟩
set_option maxRecDepth 20000 in
theorem tb155 : (Jvm.Cond.fieldLink "WhoIsThere" (369 : Nat) "WhoIsThere$Letter" "tellings" "I") ∈ xa_G := List.mem_filter.mpr ⟨List.mem_append_right _ (xa_t1 155 rfl), rfl⟩
set_option maxRecDepth 20000 in
theorem tb156 : (Jvm.Cond.fieldLink "WhoIsThere$Letter" (30 : Nat) "WhoIsThere$Letter" "tellName" "[I") ∈ xa_G := List.mem_filter.mpr ⟨List.mem_append_right _ (xa_t1 156 rfl), rfl⟩
set_option maxRecDepth 20000 in
theorem tb157 : (Jvm.Cond.fieldLink "WhoIsThere" (440 : Nat) "WhoIsThere$Letter" "tellName" "[I") ∈ xa_G := List.mem_filter.mpr ⟨List.mem_append_right _ (xa_t1 157 rfl), rfl⟩
set_option maxRecDepth 20000 in
theorem tb158 : (Jvm.Cond.fieldLink "WhoIsThere$Letter" (33 : Nat) "WhoIsThere$Letter" "tellMarks" "[I") ∈ xa_G := List.mem_filter.mpr ⟨List.mem_append_right _ (xa_t1 158 rfl), rfl⟩
set_option maxRecDepth 20000 in
theorem tb159 : (Jvm.Cond.fieldLink "WhoIsThere" (455 : Nat) "WhoIsThere$Letter" "tellMarks" "[I") ∈ xa_G := List.mem_filter.mpr ⟨List.mem_append_right _ (xa_t1 159 rfl), rfl⟩
set_option maxRecDepth 20000 in
theorem tb160 : (Jvm.Cond.fieldLink "WhoIsThere$Letter" (36 : Nat) "WhoIsThere$Letter" "tellLife" "[I") ∈ xa_G := List.mem_filter.mpr ⟨List.mem_append_right _ (xa_t1 160 rfl), rfl⟩
set_option maxRecDepth 20000 in
theorem tb161 : (Jvm.Cond.fieldLink "WhoIsThere" (443 : Nat) "WhoIsThere$Letter" "tellLife" "[I") ∈ xa_G := List.mem_filter.mpr ⟨List.mem_append_right _ (xa_t1 161 rfl), rfl⟩
set_option maxRecDepth 20000 in
theorem tb162 : (Jvm.Cond.fieldLink "WhoIsThere$Letter" (39 : Nat) "WhoIsThere$Letter" "tellBorne" "[I") ∈ xa_G := List.mem_filter.mpr ⟨List.mem_append_right _ (xa_t1 162 rfl), rfl⟩
set_option maxRecDepth 20000 in
theorem tb194 : (Jvm.Cond.fieldLink "WhoIsThere$Host" (43 : Nat) "WhoIsThere$Host" "number" "I") ∈ xa_G := List.mem_filter.mpr ⟨List.mem_append_right _ (xa_t1 194 rfl), rfl⟩
set_option maxRecDepth 20000 in
theorem tb195 : (Jvm.Cond.fieldLink "WhoIsThere" (32 : Nat) "WhoIsThere$Host" "number" "I") ∈ xa_G := List.mem_filter.mpr ⟨List.mem_append_right _ (xa_t1 195 rfl), rfl⟩
set_option maxRecDepth 20000 in
theorem tb196 : (Jvm.Cond.fieldLink "WhoIsThere$Host" (49 : Nat) "WhoIsThere$Host" "from" "I") ∈ xa_G := List.mem_filter.mpr ⟨List.mem_append_right _ (xa_t1 196 rfl), rfl⟩
set_option maxRecDepth 20000 in
theorem tb197 : (Jvm.Cond.fieldLink "WhoIsThere" (464 : Nat) "WhoIsThere$Host" "from" "I") ∈ xa_G := List.mem_filter.mpr ⟨List.mem_append_right _ (xa_t1 197 rfl), rfl⟩
set_option maxRecDepth 20000 in
theorem tb198 : (Jvm.Cond.fieldLink "WhoIsThere$Host" (52 : Nat) "WhoIsThere$Host" "to" "I") ∈ xa_G := List.mem_filter.mpr ⟨List.mem_append_right _ (xa_t1 198 rfl), rfl⟩
set_option maxRecDepth 20000 in
theorem tb199 : (Jvm.Cond.fieldLink "WhoIsThere" (467 : Nat) "WhoIsThere$Host" "to" "I") ∈ xa_G := List.mem_filter.mpr ⟨List.mem_append_right _ (xa_t1 199 rfl), rfl⟩
set_option maxRecDepth 20000 in
theorem tb200 : (Jvm.Cond.fieldLink "WhoIsThere$Host" (55 : Nat) "WhoIsThere$Host" "rank" "I") ∈ xa_G := List.mem_filter.mpr ⟨List.mem_append_right _ (xa_t1 200 rfl), rfl⟩
set_option maxRecDepth 20000 in
theorem tb201 : (Jvm.Cond.fieldLink "WhoIsThere" (271 : Nat) "WhoIsThere$Host" "rank" "I") ∈ xa_G := List.mem_filter.mpr ⟨List.mem_append_right _ (xa_t1 201 rfl), rfl⟩
set_option maxRecDepth 20000 in
theorem tb202 : (Jvm.Cond.fieldLink "WhoIsThere$Host" (12 : Nat) "WhoIsThere$Host" "store" "LWhoIsThere$Store;") ∈ xa_G := List.mem_filter.mpr ⟨List.mem_append_right _ (xa_t1 202 rfl), rfl⟩
set_option maxRecDepth 20000 in
theorem tb203 : (Jvm.Cond.fieldLink "WhoIsThere" (134 : Nat) "WhoIsThere$Host" "store" "LWhoIsThere$Store;") ∈ xa_G := List.mem_filter.mpr ⟨List.mem_append_right _ (xa_t1 203 rfl), rfl⟩
set_option maxRecDepth 20000 in
theorem tb204 : (Jvm.Cond.fieldLink "WhoIsThere$Host" (21 : Nat) "WhoIsThere$Host" "asks" "LWhoIsThere$Asks;") ∈ xa_G := List.mem_filter.mpr ⟨List.mem_append_right _ (xa_t1 204 rfl), rfl⟩
set_option maxRecDepth 20000 in
theorem tb205 : (Jvm.Cond.fieldLink "WhoIsThere" (71 : Nat) "WhoIsThere$Host" "asks" "LWhoIsThere$Asks;") ∈ xa_G := List.mem_filter.mpr ⟨List.mem_append_right _ (xa_t1 205 rfl), rfl⟩
set_option maxRecDepth 20000 in
theorem tb206 : (Jvm.Cond.fieldLink "WhoIsThere$Host" (28 : Nat) "WhoIsThere$Host" "answers" "LWhoIsThere$Answers;") ∈ xa_G := List.mem_filter.mpr ⟨List.mem_append_right _ (xa_t1 206 rfl), rfl⟩
set_option maxRecDepth 20000 in
theorem tb207 : (Jvm.Cond.fieldLink "WhoIsThere" (143 : Nat) "WhoIsThere$Host" "answers" "LWhoIsThere$Answers;") ∈ xa_G := List.mem_filter.mpr ⟨List.mem_append_right _ (xa_t1 207 rfl), rfl⟩
set_option maxRecDepth 20000 in
theorem tb208 : (Jvm.Cond.fieldLink "WhoIsThere$Host" (46 : Nat) "WhoIsThere$Host" "net" "I") ∈ xa_G := List.mem_filter.mpr ⟨List.mem_append_right _ (xa_t1 208 rfl), rfl⟩
set_option maxRecDepth 20000 in
theorem tb209 : (Jvm.Cond.fieldLink "WhoIsThere" (88 : Nat) "WhoIsThere$Host" "net" "I") ∈ xa_G := List.mem_filter.mpr ⟨List.mem_append_right _ (xa_t1 209 rfl), rfl⟩
set_option maxRecDepth 20000 in
theorem tb210 : (Jvm.Cond.fieldLink "WhoIsThere$Host" (32 : Nat) "WhoIsThere$Host" "state" "I") ∈ xa_G := List.mem_filter.mpr ⟨List.mem_append_right _ (xa_t1 210 rfl), rfl⟩
set_option maxRecDepth 20000 in
theorem tb211 : (Jvm.Cond.fieldLink "WhoIsThere" (95 : Nat) "WhoIsThere$Host" "state" "I") ∈ xa_G := List.mem_filter.mpr ⟨List.mem_append_right _ (xa_t1 211 rfl), rfl⟩
set_option maxRecDepth 20000 in
theorem tb212 : (Jvm.Cond.fieldLink "WhoIsThere$Host" (65 : Nat) "WhoIsThere$Host" "isKeeper" "Z") ∈ xa_G := List.mem_filter.mpr ⟨List.mem_append_right _ (xa_t1 212 rfl), rfl⟩
set_option maxRecDepth 20000 in
theorem tb213 : (Jvm.Cond.fieldLink "WhoIsThere" (91 : Nat) "WhoIsThere$Host" "isKeeper" "Z") ∈ xa_G := List.mem_filter.mpr ⟨List.mem_append_right _ (xa_t1 213 rfl), rfl⟩
set_option maxRecDepth 20000 in
theorem tb214 : (Jvm.Cond.fieldLink "WhoIsThere" (96 : Nat) "WhoIsThere$Host" "proxy" "LWhoIsThere$Host;") ∈ xa_G := List.mem_filter.mpr ⟨List.mem_append_right _ (xa_t1 214 rfl), rfl⟩
set_option maxRecDepth 20000 in
theorem tb215 : (Jvm.Cond.fieldLink "WhoIsThere$Host" (58 : Nat) "WhoIsThere$Host" "bridge" "LWhoIsThere$Bridge;") ∈ xa_G := List.mem_filter.mpr ⟨List.mem_append_right _ (xa_t1 215 rfl), rfl⟩
set_option maxRecDepth 20000 in
theorem tb216 : (Jvm.Cond.fieldLink "WhoIsThere" (155 : Nat) "WhoIsThere$Host" "bridge" "LWhoIsThere$Bridge;") ∈ xa_G := List.mem_filter.mpr ⟨List.mem_append_right _ (xa_t1 216 rfl), rfl⟩
set_option maxRecDepth 20000 in
theorem tb217 : (Jvm.Cond.fieldLink "WhoIsThere" (159 : Nat) "WhoIsThere$Host" "toLose" "I") ∈ xa_G := List.mem_filter.mpr ⟨List.mem_append_right _ (xa_t1 217 rfl), rfl⟩
set_option maxRecDepth 20000 in
theorem tb218 : (Jvm.Cond.fieldLink "WhoIsThere" (162 : Nat) "WhoIsThere$Host" "toMiss" "I") ∈ xa_G := List.mem_filter.mpr ⟨List.mem_append_right _ (xa_t1 218 rfl), rfl⟩
set_option maxRecDepth 20000 in
theorem tb219 : (Jvm.Cond.fieldLink "WhoIsThere" (213 : Nat) "WhoIsThere$Host" "written" "I") ∈ xa_G := List.mem_filter.mpr ⟨List.mem_append_right _ (xa_t1 219 rfl), rfl⟩
set_option maxRecDepth 20000 in
theorem tb220 : (Jvm.Cond.fieldLink "WhoIsThere$Host" (39 : Nat) "WhoIsThere$Host" "letter" "LWhoIsThere$Letter;") ∈ xa_G := List.mem_filter.mpr ⟨List.mem_append_right _ (xa_t1 220 rfl), rfl⟩
set_option maxRecDepth 20000 in
theorem tb221 : (Jvm.Cond.fieldLink "WhoIsThere" (280 : Nat) "WhoIsThere$Host" "letter" "LWhoIsThere$Letter;") ∈ xa_G := List.mem_filter.mpr ⟨List.mem_append_right _ (xa_t1 221 rfl), rfl⟩
set_option maxRecDepth 20000 in
theorem tb255 : (Jvm.Cond.methodLink "WhoIsThereLaw" (18 : Nat) ({ cls := "WhoIsThere", name := "offer", desc := "(IIIII)I" } : Jvm.MethodName)) ∈ xa_G := List.mem_filter.mpr ⟨List.mem_append_right _ (xa_t2 15 rfl), rfl⟩
set_option maxRecDepth 20000 in
theorem tb256 : (Jvm.Cond.instanceMethod ({ cls := "WhoIsThere", name := "offer", desc := "(IIIII)I" } : Jvm.MethodName)) ∈ xa_G := List.mem_filter.mpr ⟨List.mem_append_right _ (xa_t2 16 rfl), rfl⟩
set_option maxRecDepth 20000 in
theorem tb257 : (Jvm.Cond.selects "WhoIsThere" ({ cls := "WhoIsThere", name := "offer", desc := "(IIIII)I" } : Jvm.MethodName) ({ cls := "WhoIsThere", name := "offer", desc := "(IIIII)I" } : Jvm.MethodName)) ∈ xa_G := List.mem_filter.mpr ⟨List.mem_append_right _ (xa_t2 17 rfl), rfl⟩
set_option maxRecDepth 20000 in
theorem tb258 : (Jvm.Cond.code ({ cls := "WhoIsThere", name := "offer", desc := "(IIIII)I" } : Jvm.MethodName) prog_1_method_3_code (7 : Nat) (Option.some FieldType.int)) ∈ xa_G := List.mem_filter.mpr ⟨List.mem_append_right _ (xa_t2 18 rfl), rfl⟩
set_option maxRecDepth 20000 in
theorem tb259 : (Jvm.Cond.methodLink "WhoIsThere" (35 : Nat) ({ cls := "WhoIsThere", name := "stayingHelper", desc := "(I)LWhoIsThere$Host;" } : Jvm.MethodName)) ∈ xa_G := List.mem_filter.mpr ⟨List.mem_append_right _ (xa_t2 19 rfl), rfl⟩
set_option maxRecDepth 20000 in
theorem tb261 : (Jvm.Cond.instanceMethod ({ cls := "WhoIsThere", name := "stayingHelper", desc := "(I)LWhoIsThere$Host;" } : Jvm.MethodName)) ∈ xa_G := List.mem_filter.mpr ⟨List.mem_append_right _ (xa_t2 21 rfl), rfl⟩
set_option maxRecDepth 20000 in
theorem tb262 : (Jvm.Cond.code ({ cls := "WhoIsThere", name := "stayingHelper", desc := "(I)LWhoIsThere$Host;" } : Jvm.MethodName) prog_1_method_30_code (3 : Nat) (Option.some (FieldType.object "WhoIsThere$Host"))) ∈ xa_G := List.mem_filter.mpr ⟨List.mem_append_right _ (xa_t2 22 rfl), rfl⟩
set_option maxRecDepth 20000 in
theorem tb263 : (Jvm.Cond.methodLink "WhoIsThere" (115 : Nat) ({ cls := "WhoIsThere", name := "stayingHost", desc := "(I)LWhoIsThere$Host;" } : Jvm.MethodName)) ∈ xa_G := List.mem_filter.mpr ⟨List.mem_append_right _ (xa_t2 23 rfl), rfl⟩
set_option maxRecDepth 20000 in
theorem tb265 : (Jvm.Cond.instanceMethod ({ cls := "WhoIsThere", name := "stayingHost", desc := "(I)LWhoIsThere$Host;" } : Jvm.MethodName)) ∈ xa_G := List.mem_filter.mpr ⟨List.mem_append_right _ (xa_t2 25 rfl), rfl⟩
set_option maxRecDepth 20000 in
theorem tb266 : (Jvm.Cond.code ({ cls := "WhoIsThere", name := "stayingHost", desc := "(I)LWhoIsThere$Host;" } : Jvm.MethodName) prog_1_method_29_code (3 : Nat) (Option.some (FieldType.object "WhoIsThere$Host"))) ∈ xa_G := List.mem_filter.mpr ⟨List.mem_append_right _ (xa_t2 26 rfl), rfl⟩
set_option maxRecDepth 20000 in
theorem tb267 : (Jvm.Cond.methodLink "WhoIsThere" (100 : Nat) ({ cls := "WhoIsThere", name := "hostAt", desc := "(I)LWhoIsThere$Host;" } : Jvm.MethodName)) ∈ xa_G := List.mem_filter.mpr ⟨List.mem_append_right _ (xa_t2 27 rfl), rfl⟩
set_option maxRecDepth 20000 in
theorem tb269 : (Jvm.Cond.instanceMethod ({ cls := "WhoIsThere", name := "hostAt", desc := "(I)LWhoIsThere$Host;" } : Jvm.MethodName)) ∈ xa_G := List.mem_filter.mpr ⟨List.mem_append_right _ (xa_t2 29 rfl), rfl⟩
set_option maxRecDepth 20000 in
theorem tb270 : (Jvm.Cond.code ({ cls := "WhoIsThere", name := "hostAt", desc := "(I)LWhoIsThere$Host;" } : Jvm.MethodName) prog_1_method_28_code (2 : Nat) (Option.some (FieldType.object "WhoIsThere$Host"))) ∈ xa_G := List.mem_filter.mpr ⟨List.mem_append_right _ (xa_t2 30 rfl), rfl⟩
set_option maxRecDepth 20000 in
theorem tb271 : (Jvm.Cond.methodLink "WhoIsThere" (39 : Nat) ({ cls := "WhoIsThere$Host", name := "hasForName", desc := "(I)Z" } : Jvm.MethodName)) ∈ xa_G := List.mem_filter.mpr ⟨List.mem_append_right _ (xa_t2 31 rfl), rfl⟩
set_option maxRecDepth 20000 in
theorem tb272 : (Jvm.Cond.instanceMethod ({ cls := "WhoIsThere$Host", name := "hasForName", desc := "(I)Z" } : Jvm.MethodName)) ∈ xa_G := List.mem_filter.mpr ⟨List.mem_append_right _ (xa_t2 32 rfl), rfl⟩
set_option maxRecDepth 20000 in
theorem tb273 : (Jvm.Cond.selects "WhoIsThere$Host" ({ cls := "WhoIsThere$Host", name := "hasForName", desc := "(I)Z" } : Jvm.MethodName) ({ cls := "WhoIsThere$Host", name := "hasForName", desc := "(I)Z" } : Jvm.MethodName)) ∈ xa_G := List.mem_filter.mpr ⟨List.mem_append_right _ (xa_t2 33 rfl), rfl⟩
set_option maxRecDepth 20000 in
theorem tb274 : (Jvm.Cond.code ({ cls := "WhoIsThere$Host", name := "hasForName", desc := "(I)Z" } : Jvm.MethodName) prog_5_method_2_code (2 : Nat) (Option.some FieldType.boolean)) ∈ xa_G := List.mem_filter.mpr ⟨List.mem_append_right _ (xa_t2 34 rfl), rfl⟩
set_option maxRecDepth 20000 in
theorem tb275 : (Jvm.Cond.methodLink "WhoIsThere" (42 : Nat) ({ cls := "WhoIsThere", name := "addService", desc := "(LWhoIsThere$Host;IIIIZ)I" } : Jvm.MethodName)) ∈ xa_G := List.mem_filter.mpr ⟨List.mem_append_right _ (xa_t2 35 rfl), rfl⟩
set_option maxRecDepth 20000 in
theorem tb277 : (Jvm.Cond.instanceMethod ({ cls := "WhoIsThere", name := "addService", desc := "(LWhoIsThere$Host;IIIIZ)I" } : Jvm.MethodName)) ∈ xa_G := List.mem_filter.mpr ⟨List.mem_append_right _ (xa_t2 37 rfl), rfl⟩
set_option maxRecDepth 20000 in
theorem tb278 : (Jvm.Cond.code ({ cls := "WhoIsThere", name := "addService", desc := "(LWhoIsThere$Host;IIIIZ)I" } : Jvm.MethodName) prog_1_method_33_code (9 : Nat) (Option.some FieldType.int)) ∈ xa_G := List.mem_filter.mpr ⟨List.mem_append_right _ (xa_t2 38 rfl), rfl⟩
set_option maxRecDepth 20000 in
theorem tb279 : (Jvm.Cond.methodLink "WhoIsThere" (68 : Nat) ({ cls := "WhoIsThere", name := "isKind", desc := "(I)Z" } : Jvm.MethodName)) ∈ xa_G := List.mem_filter.mpr ⟨List.mem_append_right _ (xa_t2 39 rfl), rfl⟩
set_option maxRecDepth 20000 in
theorem tb280 : (Jvm.Cond.static ({ cls := "WhoIsThere", name := "isKind", desc := "(I)Z" } : Jvm.MethodName)) ∈ xa_G := List.mem_filter.mpr ⟨List.mem_append_right _ (xa_t2 40 rfl), rfl⟩
set_option maxRecDepth 20000 in
theorem tb281 : (Jvm.Cond.code ({ cls := "WhoIsThere", name := "isKind", desc := "(I)Z" } : Jvm.MethodName) prog_1_method_26_code (1 : Nat) (Option.some FieldType.boolean)) ∈ xa_G := List.mem_filter.mpr ⟨List.mem_append_right _ (xa_t2 41 rfl), rfl⟩
set_option maxRecDepth 20000 in
theorem tb282 : (Jvm.Cond.methodLink "WhoIsThere" (53 : Nat) ({ cls := "WhoIsThere", name := "areMarks", desc := "(I)Z" } : Jvm.MethodName)) ∈ xa_G := List.mem_filter.mpr ⟨List.mem_append_right _ (xa_t2 42 rfl), rfl⟩
set_option maxRecDepth 20000 in
theorem tb283 : (Jvm.Cond.static ({ cls := "WhoIsThere", name := "areMarks", desc := "(I)Z" } : Jvm.MethodName)) ∈ xa_G := List.mem_filter.mpr ⟨List.mem_append_right _ (xa_t2 43 rfl), rfl⟩
set_option maxRecDepth 20000 in
theorem tb284 : (Jvm.Cond.code ({ cls := "WhoIsThere", name := "areMarks", desc := "(I)Z" } : Jvm.MethodName) prog_1_method_27_code (1 : Nat) (Option.some FieldType.boolean)) ∈ xa_G := List.mem_filter.mpr ⟨List.mem_append_right _ (xa_t2 44 rfl), rfl⟩
set_option maxRecDepth 20000 in
theorem tb285 : (Jvm.Cond.methodLink "WhoIsThere" (250 : Nat) ({ cls := "WhoIsThere", name := "liveServicesOf", desc := "(LWhoIsThere$Host;)I" } : Jvm.MethodName)) ∈ xa_G := List.mem_filter.mpr ⟨List.mem_append_right _ (xa_t2 45 rfl), rfl⟩
set_option maxRecDepth 20000 in
theorem tb287 : (Jvm.Cond.instanceMethod ({ cls := "WhoIsThere", name := "liveServicesOf", desc := "(LWhoIsThere$Host;)I" } : Jvm.MethodName)) ∈ xa_G := List.mem_filter.mpr ⟨List.mem_append_right _ (xa_t2 47 rfl), rfl⟩
set_option maxRecDepth 20000 in
theorem tb288 : (Jvm.Cond.code ({ cls := "WhoIsThere", name := "liveServicesOf", desc := "(LWhoIsThere$Host;)I" } : Jvm.MethodName) prog_1_method_34_code (4 : Nat) (Option.some FieldType.int)) ∈ xa_G := List.mem_filter.mpr ⟨List.mem_append_right _ (xa_t2 48 rfl), rfl⟩
set_option maxRecDepth 20000 in
theorem tb289 : (Jvm.Cond.methodLink "WhoIsThere" (253 : Nat) ({ cls := "WhoIsThere", name := "isNameTaken", desc := "(LWhoIsThere$Host;I)Z" } : Jvm.MethodName)) ∈ xa_G := List.mem_filter.mpr ⟨List.mem_append_right _ (xa_t2 49 rfl), rfl⟩
set_option maxRecDepth 20000 in
theorem tb291 : (Jvm.Cond.instanceMethod ({ cls := "WhoIsThere", name := "isNameTaken", desc := "(LWhoIsThere$Host;I)Z" } : Jvm.MethodName)) ∈ xa_G := List.mem_filter.mpr ⟨List.mem_append_right _ (xa_t2 51 rfl), rfl⟩
set_option maxRecDepth 20000 in
theorem tb292 : (Jvm.Cond.code ({ cls := "WhoIsThere", name := "isNameTaken", desc := "(LWhoIsThere$Host;I)Z" } : Jvm.MethodName) prog_1_method_35_code (5 : Nat) (Option.some FieldType.boolean)) ∈ xa_G := List.mem_filter.mpr ⟨List.mem_append_right _ (xa_t2 52 rfl), rfl⟩
set_option maxRecDepth 20000 in
theorem tb293 : (Jvm.Cond.instantiable "WhoIsThere$Service" (12 : Nat)) ∈ xa_G := List.mem_filter.mpr ⟨List.mem_append_right _ (xa_t2 53 rfl), rfl⟩
set_option maxRecDepth 20000 in
theorem tb294 : (Jvm.Cond.methodLink "WhoIsThere" (257 : Nat) ({ cls := "WhoIsThere$Service", name := "<init>", desc := "(ILWhoIsThere$Host;IIIIZ)V" } : Jvm.MethodName)) ∈ xa_G := List.mem_filter.mpr ⟨List.mem_append_right _ (xa_t2 54 rfl), rfl⟩
set_option maxRecDepth 20000 in
theorem tb295 : (Jvm.Cond.instanceMethod ({ cls := "WhoIsThere$Service", name := "<init>", desc := "(ILWhoIsThere$Host;IIIIZ)V" } : Jvm.MethodName)) ∈ xa_G := List.mem_filter.mpr ⟨List.mem_append_right _ (xa_t2 55 rfl), rfl⟩
set_option maxRecDepth 20000 in
theorem tb296 : (Jvm.Cond.code ({ cls := "WhoIsThere$Service", name := "<init>", desc := "(ILWhoIsThere$Host;IIIIZ)V" } : Jvm.MethodName) prog_7_method_1_code (8 : Nat) (Option.none : Option FieldType)) ∈ xa_G := List.mem_filter.mpr ⟨List.mem_append_right _ (xa_t2 56 rfl), rfl⟩
set_option maxRecDepth 20000 in
theorem tb297 : (Jvm.Cond.methodLink "WhoIsThere$Service" (3 : Nat) ({ cls := "java/lang/Object", name := "<init>", desc := "()V" } : Jvm.MethodName)) ∈ xa_G := List.mem_filter.mpr ⟨List.mem_append_right _ (xa_t2 57 rfl), rfl⟩
set_option maxRecDepth 20000 in
theorem tb298 : (Jvm.Cond.fieldLink "WhoIsThere$Service" (18 : Nat) "WhoIsThere$Service" "number" "I") ∈ xa_G := List.mem_filter.mpr ⟨List.mem_append_right _ (xa_t2 58 rfl), rfl⟩
set_option maxRecDepth 20000 in
theorem tb299 : (Jvm.Cond.fieldLink "WhoIsThere" (264 : Nat) "WhoIsThere$Service" "number" "I") ∈ xa_G := List.mem_filter.mpr ⟨List.mem_append_right _ (xa_t2 59 rfl), rfl⟩
set_option maxRecDepth 20000 in
theorem tb300 : (Jvm.Cond.fieldLink "WhoIsThere$Service" (21 : Nat) "WhoIsThere$Service" "host" "LWhoIsThere$Host;") ∈ xa_G := List.mem_filter.mpr ⟨List.mem_append_right _ (xa_t2 60 rfl), rfl⟩
set_option maxRecDepth 20000 in
theorem tb301 : (Jvm.Cond.fieldLink "WhoIsThere" (106 : Nat) "WhoIsThere$Service" "host" "LWhoIsThere$Host;") ∈ xa_G := List.mem_filter.mpr ⟨List.mem_append_right _ (xa_t2 61 rfl), rfl⟩
set_option maxRecDepth 20000 in
theorem tb302 : (Jvm.Cond.fieldLink "WhoIsThere$Service" (25 : Nat) "WhoIsThere$Service" "kind" "I") ∈ xa_G := List.mem_filter.mpr ⟨List.mem_append_right _ (xa_t2 62 rfl), rfl⟩
set_option maxRecDepth 20000 in
theorem tb303 : (Jvm.Cond.fieldLink "WhoIsThere" (268 : Nat) "WhoIsThere$Service" "kind" "I") ∈ xa_G := List.mem_filter.mpr ⟨List.mem_append_right _ (xa_t2 63 rfl), rfl⟩
set_option maxRecDepth 20000 in
theorem tb304 : (Jvm.Cond.fieldLink "WhoIsThere$Service" (34 : Nat) "WhoIsThere$Service" "life" "I") ∈ xa_G := List.mem_filter.mpr ⟨List.mem_append_right _ (xa_t2 64 rfl), rfl⟩
set_option maxRecDepth 20000 in
theorem tb305 : (Jvm.Cond.fieldLink "WhoIsThere" (335 : Nat) "WhoIsThere$Service" "life" "I") ∈ xa_G := List.mem_filter.mpr ⟨List.mem_append_right _ (xa_t2 65 rfl), rfl⟩
set_option maxRecDepth 20000 in
theorem tb306 : (Jvm.Cond.fieldLink "WhoIsThere$Service" (37 : Nat) "WhoIsThere$Service" "isFalse" "Z") ∈ xa_G := List.mem_filter.mpr ⟨List.mem_append_right _ (xa_t2 66 rfl), rfl⟩
set_option maxRecDepth 20000 in
theorem tb307 : (Jvm.Cond.fieldLink "WhoIsThere" (265 : Nat) "WhoIsThere$Service" "isFalse" "Z") ∈ xa_G := List.mem_filter.mpr ⟨List.mem_append_right _ (xa_t2 67 rfl), rfl⟩
set_option maxRecDepth 20000 in
theorem tb308 : (Jvm.Cond.fieldLink "WhoIsThere$Service" (28 : Nat) "WhoIsThere$Service" "name" "I") ∈ xa_G := List.mem_filter.mpr ⟨List.mem_append_right _ (xa_t2 68 rfl), rfl⟩
set_option maxRecDepth 20000 in
theorem tb309 : (Jvm.Cond.fieldLink "WhoIsThere" (201 : Nat) "WhoIsThere$Service" "name" "I") ∈ xa_G := List.mem_filter.mpr ⟨List.mem_append_right _ (xa_t2 69 rfl), rfl⟩
set_option maxRecDepth 20000 in
theorem tb310 : (Jvm.Cond.fieldLink "WhoIsThere$Service" (31 : Nat) "WhoIsThere$Service" "marks" "I") ∈ xa_G := List.mem_filter.mpr ⟨List.mem_append_right _ (xa_t2 70 rfl), rfl⟩
set_option maxRecDepth 20000 in
theorem tb311 : (Jvm.Cond.fieldLink "WhoIsThere" (56 : Nat) "WhoIsThere$Service" "marks" "I") ∈ xa_G := List.mem_filter.mpr ⟨List.mem_append_right _ (xa_t2 71 rfl), rfl⟩
set_option maxRecDepth 20000 in
theorem tb312 : (Jvm.Cond.fieldLink "WhoIsThere$Service" (9 : Nat) "WhoIsThere$Service" "state" "I") ∈ xa_G := List.mem_filter.mpr ⟨List.mem_append_right _ (xa_t2 72 rfl), rfl⟩
set_option maxRecDepth 20000 in
theorem tb313 : (Jvm.Cond.fieldLink "WhoIsThere" (59 : Nat) "WhoIsThere$Service" "state" "I") ∈ xa_G := List.mem_filter.mpr ⟨List.mem_append_right _ (xa_t2 73 rfl), rfl⟩
set_option maxRecDepth 20000 in
theorem tb314 : (Jvm.Cond.fieldLink "WhoIsThere$Service" (15 : Nat) "WhoIsThere$Service" "claims" "I") ∈ xa_G := List.mem_filter.mpr ⟨List.mem_append_right _ (xa_t2 74 rfl), rfl⟩
set_option maxRecDepth 20000 in
theorem tb315 : (Jvm.Cond.fieldLink "WhoIsThere" (203 : Nat) "WhoIsThere$Service" "claims" "I") ∈ xa_G := List.mem_filter.mpr ⟨List.mem_append_right _ (xa_t2 75 rfl), rfl⟩
set_option maxRecDepth 20000 in
theorem tb316 : (Jvm.Cond.fieldLink "WhoIsThere$Service" (41 : Nat) "WhoIsThere$Service" "renewal" "I") ∈ xa_G := List.mem_filter.mpr ⟨List.mem_append_right _ (xa_t2 76 rfl), rfl⟩
set_option maxRecDepth 20000 in
theorem tb317 : (Jvm.Cond.fieldLink "WhoIsThere" (65 : Nat) "WhoIsThere$Service" "renewal" "I") ∈ xa_G := List.mem_filter.mpr ⟨List.mem_append_right _ (xa_t2 77 rfl), rfl⟩
set_option maxRecDepth 20000 in
theorem tb318 : (Jvm.Cond.fieldLink "WhoIsThere$Service" (44 : Nat) "WhoIsThere$Service" "hasBye" "Z") ∈ xa_G := List.mem_filter.mpr ⟨List.mem_append_right _ (xa_t2 78 rfl), rfl⟩
set_option maxRecDepth 20000 in
theorem tb319 : (Jvm.Cond.fieldLink "WhoIsThere" (109 : Nat) "WhoIsThere$Service" "hasBye" "Z") ∈ xa_G := List.mem_filter.mpr ⟨List.mem_append_right _ (xa_t2 79 rfl), rfl⟩
set_option maxRecDepth 20000 in
theorem tb320 : (Jvm.Cond.fieldLink "WhoIsThere$Service" (47 : Nat) "WhoIsThere$Service" "yielded" "I") ∈ xa_G := List.mem_filter.mpr ⟨List.mem_append_right _ (xa_t2 80 rfl), rfl⟩
set_option maxRecDepth 20000 in
theorem tb321 : (Jvm.Cond.fieldLink "WhoIsThere" (206 : Nat) "WhoIsThere$Service" "yielded" "I") ∈ xa_G := List.mem_filter.mpr ⟨List.mem_append_right _ (xa_t2 81 rfl), rfl⟩
set_option maxRecDepth 20000 in
theorem tb347 : (Jvm.Cond.methodLink "WhoIsThere" (260 : Nat) ({ cls := "WhoIsThere$Service", name := "hold", desc := "(I)V" } : Jvm.MethodName)) ∈ xa_G := List.mem_filter.mpr ⟨List.mem_append_right _ (xa_t2 107 rfl), rfl⟩
set_option maxRecDepth 20000 in
theorem tb348 : (Jvm.Cond.instanceMethod ({ cls := "WhoIsThere$Service", name := "hold", desc := "(I)V" } : Jvm.MethodName)) ∈ xa_G := List.mem_filter.mpr ⟨List.mem_append_right _ (xa_t2 108 rfl), rfl⟩
set_option maxRecDepth 20000 in
theorem tb349 : (Jvm.Cond.selects "WhoIsThere$Service" ({ cls := "WhoIsThere$Service", name := "hold", desc := "(I)V" } : Jvm.MethodName) ({ cls := "WhoIsThere$Service", name := "hold", desc := "(I)V" } : Jvm.MethodName)) ∈ xa_G := List.mem_filter.mpr ⟨List.mem_append_right _ (xa_t2 109 rfl), rfl⟩
set_option maxRecDepth 20000 in
theorem tb350 : (Jvm.Cond.code ({ cls := "WhoIsThere$Service", name := "hold", desc := "(I)V" } : Jvm.MethodName) prog_7_method_2_code (2 : Nat) (Option.none : Option FieldType)) ∈ xa_G := List.mem_filter.mpr ⟨List.mem_append_right _ (xa_t2 110 rfl), rfl⟩
set_option maxRecDepth 20000 in
theorem tb351 : (Jvm.Cond.methodLink "WhoIsThereLaw" (23 : Nat) ({ cls := "WhoIsThere", name := "lie", desc := "(IIIII)I" } : Jvm.MethodName)) ∈ xa_G := List.mem_filter.mpr ⟨List.mem_append_right _ (xa_t2 111 rfl), rfl⟩
set_option maxRecDepth 20000 in
theorem tb352 : (Jvm.Cond.instanceMethod ({ cls := "WhoIsThere", name := "lie", desc := "(IIIII)I" } : Jvm.MethodName)) ∈ xa_G := List.mem_filter.mpr ⟨List.mem_append_right _ (xa_t2 112 rfl), rfl⟩
set_option maxRecDepth 20000 in
theorem tb353 : (Jvm.Cond.selects "WhoIsThere" ({ cls := "WhoIsThere", name := "lie", desc := "(IIIII)I" } : Jvm.MethodName) ({ cls := "WhoIsThere", name := "lie", desc := "(IIIII)I" } : Jvm.MethodName)) ∈ xa_G := List.mem_filter.mpr ⟨List.mem_append_right _ (xa_t2 113 rfl), rfl⟩
set_option maxRecDepth 20000 in
theorem tb354 : (Jvm.Cond.code ({ cls := "WhoIsThere", name := "lie", desc := "(IIIII)I" } : Jvm.MethodName) prog_1_method_4_code (7 : Nat) (Option.some FieldType.int)) ∈ xa_G := List.mem_filter.mpr ⟨List.mem_append_right _ (xa_t2 114 rfl), rfl⟩
set_option maxRecDepth 20000 in
theorem tb355 : (Jvm.Cond.methodLink "WhoIsThereLaw" (27 : Nat) ({ cls := "WhoIsThere", name := "drop", desc := "(I)Z" } : Jvm.MethodName)) ∈ xa_G := List.mem_filter.mpr ⟨List.mem_append_right _ (xa_t2 115 rfl), rfl⟩
set_option maxRecDepth 20000 in
theorem tb356 : (Jvm.Cond.instanceMethod ({ cls := "WhoIsThere", name := "drop", desc := "(I)Z" } : Jvm.MethodName)) ∈ xa_G := List.mem_filter.mpr ⟨List.mem_append_right _ (xa_t2 116 rfl), rfl⟩
set_option maxRecDepth 20000 in
theorem tb357 : (Jvm.Cond.selects "WhoIsThere" ({ cls := "WhoIsThere", name := "drop", desc := "(I)Z" } : Jvm.MethodName) ({ cls := "WhoIsThere", name := "drop", desc := "(I)Z" } : Jvm.MethodName)) ∈ xa_G := List.mem_filter.mpr ⟨List.mem_append_right _ (xa_t2 117 rfl), rfl⟩
set_option maxRecDepth 20000 in
theorem tb358 : (Jvm.Cond.code ({ cls := "WhoIsThere", name := "drop", desc := "(I)Z" } : Jvm.MethodName) prog_1_method_5_code (3 : Nat) (Option.some FieldType.boolean)) ∈ xa_G := List.mem_filter.mpr ⟨List.mem_append_right _ (xa_t2 118 rfl), rfl⟩
set_option maxRecDepth 20000 in
theorem tb359 : (Jvm.Cond.methodLink "WhoIsThere" (46 : Nat) ({ cls := "WhoIsThere", name := "serviceInCare", desc := "(I)LWhoIsThere$Service;" } : Jvm.MethodName)) ∈ xa_G := List.mem_filter.mpr ⟨List.mem_append_right _ (xa_t2 119 rfl), rfl⟩
set_option maxRecDepth 20000 in
theorem tb361 : (Jvm.Cond.instanceMethod ({ cls := "WhoIsThere", name := "serviceInCare", desc := "(I)LWhoIsThere$Service;" } : Jvm.MethodName)) ∈ xa_G := List.mem_filter.mpr ⟨List.mem_append_right _ (xa_t2 121 rfl), rfl⟩
set_option maxRecDepth 20000 in
theorem tb362 : (Jvm.Cond.code ({ cls := "WhoIsThere", name := "serviceInCare", desc := "(I)LWhoIsThere$Service;" } : Jvm.MethodName) prog_1_method_32_code (3 : Nat) (Option.some (FieldType.object "WhoIsThere$Service"))) ∈ xa_G := List.mem_filter.mpr ⟨List.mem_append_right _ (xa_t2 122 rfl), rfl⟩
set_option maxRecDepth 20000 in
theorem tb363 : (Jvm.Cond.methodLink "WhoIsThere" (188 : Nat) ({ cls := "WhoIsThere", name := "serviceAt", desc := "(I)LWhoIsThere$Service;" } : Jvm.MethodName)) ∈ xa_G := List.mem_filter.mpr ⟨List.mem_append_right _ (xa_t2 123 rfl), rfl⟩
set_option maxRecDepth 20000 in
theorem tb365 : (Jvm.Cond.instanceMethod ({ cls := "WhoIsThere", name := "serviceAt", desc := "(I)LWhoIsThere$Service;" } : Jvm.MethodName)) ∈ xa_G := List.mem_filter.mpr ⟨List.mem_append_right _ (xa_t2 125 rfl), rfl⟩
set_option maxRecDepth 20000 in
theorem tb366 : (Jvm.Cond.code ({ cls := "WhoIsThere", name := "serviceAt", desc := "(I)LWhoIsThere$Service;" } : Jvm.MethodName) prog_1_method_31_code (2 : Nat) (Option.some (FieldType.object "WhoIsThere$Service"))) ∈ xa_G := List.mem_filter.mpr ⟨List.mem_append_right _ (xa_t2 126 rfl), rfl⟩
set_option maxRecDepth 20000 in
theorem tb367 : (Jvm.Cond.methodLink "WhoIsThere" (50 : Nat) ({ cls := "WhoIsThere$Service", name := "end", desc := "()V" } : Jvm.MethodName)) ∈ xa_G := List.mem_filter.mpr ⟨List.mem_append_right _ (xa_t2 127 rfl), rfl⟩
set_option maxRecDepth 20000 in
theorem tb368 : (Jvm.Cond.instanceMethod ({ cls := "WhoIsThere$Service", name := "end", desc := "()V" } : Jvm.MethodName)) ∈ xa_G := List.mem_filter.mpr ⟨List.mem_append_right _ (xa_t2 128 rfl), rfl⟩
set_option maxRecDepth 20000 in
theorem tb369 : (Jvm.Cond.selects "WhoIsThere$Service" ({ cls := "WhoIsThere$Service", name := "end", desc := "()V" } : Jvm.MethodName) ({ cls := "WhoIsThere$Service", name := "end", desc := "()V" } : Jvm.MethodName)) ∈ xa_G := List.mem_filter.mpr ⟨List.mem_append_right _ (xa_t2 129 rfl), rfl⟩
set_option maxRecDepth 20000 in
theorem tb370 : (Jvm.Cond.code ({ cls := "WhoIsThere$Service", name := "end", desc := "()V" } : Jvm.MethodName) prog_7_method_3_code (1 : Nat) (Option.none : Option FieldType)) ∈ xa_G := List.mem_filter.mpr ⟨List.mem_append_right _ (xa_t2 130 rfl), rfl⟩
set_option maxRecDepth 20000 in
theorem tb371 : (Jvm.Cond.methodLink "WhoIsThereLaw" (32 : Nat) ({ cls := "WhoIsThere", name := "change", desc := "(II)Z" } : Jvm.MethodName)) ∈ xa_G := List.mem_filter.mpr ⟨List.mem_append_right _ (xa_t2 131 rfl), rfl⟩
set_option maxRecDepth 20000 in
theorem tb372 : (Jvm.Cond.instanceMethod ({ cls := "WhoIsThere", name := "change", desc := "(II)Z" } : Jvm.MethodName)) ∈ xa_G := List.mem_filter.mpr ⟨List.mem_append_right _ (xa_t2 132 rfl), rfl⟩
set_option maxRecDepth 20000 in
theorem tb373 : (Jvm.Cond.selects "WhoIsThere" ({ cls := "WhoIsThere", name := "change", desc := "(II)Z" } : Jvm.MethodName) ({ cls := "WhoIsThere", name := "change", desc := "(II)Z" } : Jvm.MethodName)) ∈ xa_G := List.mem_filter.mpr ⟨List.mem_append_right _ (xa_t2 133 rfl), rfl⟩
set_option maxRecDepth 20000 in
theorem tb374 : (Jvm.Cond.code ({ cls := "WhoIsThere", name := "change", desc := "(II)Z" } : Jvm.MethodName) prog_1_method_6_code (4 : Nat) (Option.some FieldType.boolean)) ∈ xa_G := List.mem_filter.mpr ⟨List.mem_append_right _ (xa_t2 134 rfl), rfl⟩
set_option maxRecDepth 20000 in
theorem tb375 : (Jvm.Cond.methodLink "WhoIsThereLaw" (37 : Nat) ({ cls := "WhoIsThere", name := "ask", desc := "(III)Z" } : Jvm.MethodName)) ∈ xa_G := List.mem_filter.mpr ⟨List.mem_append_right _ (xa_t2 135 rfl), rfl⟩
set_option maxRecDepth 20000 in
theorem tb376 : (Jvm.Cond.instanceMethod ({ cls := "WhoIsThere", name := "ask", desc := "(III)Z" } : Jvm.MethodName)) ∈ xa_G := List.mem_filter.mpr ⟨List.mem_append_right _ (xa_t2 136 rfl), rfl⟩
set_option maxRecDepth 20000 in
theorem tb377 : (Jvm.Cond.selects "WhoIsThere" ({ cls := "WhoIsThere", name := "ask", desc := "(III)Z" } : Jvm.MethodName) ({ cls := "WhoIsThere", name := "ask", desc := "(III)Z" } : Jvm.MethodName)) ∈ xa_G := List.mem_filter.mpr ⟨List.mem_append_right _ (xa_t2 137 rfl), rfl⟩
set_option maxRecDepth 20000 in
theorem tb378 : (Jvm.Cond.code ({ cls := "WhoIsThere", name := "ask", desc := "(III)Z" } : Jvm.MethodName) prog_1_method_7_code (5 : Nat) (Option.some FieldType.boolean)) ∈ xa_G := List.mem_filter.mpr ⟨List.mem_append_right _ (xa_t2 138 rfl), rfl⟩
set_option maxRecDepth 20000 in
theorem tb379 : (Jvm.Cond.methodLink "WhoIsThere" (75 : Nat) ({ cls := "WhoIsThere$Asks", name := "has", desc := "(I)Z" } : Jvm.MethodName)) ∈ xa_G := List.mem_filter.mpr ⟨List.mem_append_right _ (xa_t2 139 rfl), rfl⟩
set_option maxRecDepth 20000 in
theorem tb380 : (Jvm.Cond.instanceMethod ({ cls := "WhoIsThere$Asks", name := "has", desc := "(I)Z" } : Jvm.MethodName)) ∈ xa_G := List.mem_filter.mpr ⟨List.mem_append_right _ (xa_t2 140 rfl), rfl⟩
set_option maxRecDepth 20000 in
theorem tb381 : (Jvm.Cond.selects "WhoIsThere$Asks" ({ cls := "WhoIsThere$Asks", name := "has", desc := "(I)Z" } : Jvm.MethodName) ({ cls := "WhoIsThere$Asks", name := "has", desc := "(I)Z" } : Jvm.MethodName)) ∈ xa_G := List.mem_filter.mpr ⟨List.mem_append_right _ (xa_t2 141 rfl), rfl⟩
set_option maxRecDepth 20000 in
theorem tb382 : (Jvm.Cond.code ({ cls := "WhoIsThere$Asks", name := "has", desc := "(I)Z" } : Jvm.MethodName) prog_3_method_2_code (2 : Nat) (Option.some FieldType.boolean)) ∈ xa_G := List.mem_filter.mpr ⟨List.mem_append_right _ (xa_t2 142 rfl), rfl⟩
set_option maxRecDepth 20000 in
theorem tb384 : (Jvm.Cond.static ({ cls := "WhoIsThere", name := "isIn", desc := "(II)Z" } : Jvm.MethodName)) ∈ xa_G := List.mem_filter.mpr ⟨List.mem_append_right _ (xa_t2 144 rfl), rfl⟩
set_option maxRecDepth 20000 in
theorem tb385 : (Jvm.Cond.code ({ cls := "WhoIsThere", name := "isIn", desc := "(II)Z" } : Jvm.MethodName) prog_1_method_67_code (2 : Nat) (Option.some FieldType.boolean)) ∈ xa_G := List.mem_filter.mpr ⟨List.mem_append_right _ (xa_t2 145 rfl), rfl⟩
set_option maxRecDepth 20000 in
theorem tb386 : (Jvm.Cond.methodLink "WhoIsThere" (80 : Nat) ({ cls := "WhoIsThere", name := "lotOf", desc := "(LWhoIsThere$Host;)I" } : Jvm.MethodName)) ∈ xa_G := List.mem_filter.mpr ⟨List.mem_append_right _ (xa_t2 146 rfl), rfl⟩
set_option maxRecDepth 20000 in
theorem tb388 : (Jvm.Cond.instanceMethod ({ cls := "WhoIsThere", name := "lotOf", desc := "(LWhoIsThere$Host;)I" } : Jvm.MethodName)) ∈ xa_G := List.mem_filter.mpr ⟨List.mem_append_right _ (xa_t2 148 rfl), rfl⟩
set_option maxRecDepth 20000 in
theorem tb389 : (Jvm.Cond.code ({ cls := "WhoIsThere", name := "lotOf", desc := "(LWhoIsThere$Host;)I" } : Jvm.MethodName) prog_1_method_41_code (2 : Nat) (Option.some FieldType.int)) ∈ xa_G := List.mem_filter.mpr ⟨List.mem_append_right _ (xa_t2 149 rfl), rfl⟩
set_option maxRecDepth 20000 in
theorem tb390 : (Jvm.Cond.methodLink "WhoIsThere" (84 : Nat) ({ cls := "WhoIsThere$Asks", name := "put", desc := "(III)V" } : Jvm.MethodName)) ∈ xa_G := List.mem_filter.mpr ⟨List.mem_append_right _ (xa_t2 150 rfl), rfl⟩
set_option maxRecDepth 20000 in
theorem tb391 : (Jvm.Cond.instanceMethod ({ cls := "WhoIsThere$Asks", name := "put", desc := "(III)V" } : Jvm.MethodName)) ∈ xa_G := List.mem_filter.mpr ⟨List.mem_append_right _ (xa_t2 151 rfl), rfl⟩
set_option maxRecDepth 20000 in
theorem tb392 : (Jvm.Cond.selects "WhoIsThere$Asks" ({ cls := "WhoIsThere$Asks", name := "put", desc := "(III)V" } : Jvm.MethodName) ({ cls := "WhoIsThere$Asks", name := "put", desc := "(III)V" } : Jvm.MethodName)) ∈ xa_G := List.mem_filter.mpr ⟨List.mem_append_right _ (xa_t2 152 rfl), rfl⟩
set_option maxRecDepth 20000 in
theorem tb393 : (Jvm.Cond.code ({ cls := "WhoIsThere$Asks", name := "put", desc := "(III)V" } : Jvm.MethodName) prog_3_method_6_code (4 : Nat) (Option.none : Option FieldType)) ∈ xa_G := List.mem_filter.mpr ⟨List.mem_append_right _ (xa_t2 153 rfl), rfl⟩
set_option maxRecDepth 20000 in
theorem tb394 : (Jvm.Cond.methodLink "WhoIsThereLaw" (42 : Nat) ({ cls := "WhoIsThere", name := "sleep", desc := "(II)Z" } : Jvm.MethodName)) ∈ xa_G := List.mem_filter.mpr ⟨List.mem_append_right _ (xa_t2 154 rfl), rfl⟩
set_option maxRecDepth 20000 in
theorem tb395 : (Jvm.Cond.instanceMethod ({ cls := "WhoIsThere", name := "sleep", desc := "(II)Z" } : Jvm.MethodName)) ∈ xa_G := List.mem_filter.mpr ⟨List.mem_append_right _ (xa_t2 155 rfl), rfl⟩
set_option maxRecDepth 20000 in
theorem tb396 : (Jvm.Cond.selects "WhoIsThere" ({ cls := "WhoIsThere", name := "sleep", desc := "(II)Z" } : Jvm.MethodName) ({ cls := "WhoIsThere", name := "sleep", desc := "(II)Z" } : Jvm.MethodName)) ∈ xa_G := List.mem_filter.mpr ⟨List.mem_append_right _ (xa_t2 156 rfl), rfl⟩
set_option maxRecDepth 20000 in
theorem tb397 : (Jvm.Cond.code ({ cls := "WhoIsThere", name := "sleep", desc := "(II)Z" } : Jvm.MethodName) prog_1_method_8_code (5 : Nat) (Option.some FieldType.boolean)) ∈ xa_G := List.mem_filter.mpr ⟨List.mem_append_right _ (xa_t2 157 rfl), rfl⟩
set_option maxRecDepth 20000 in
theorem tb398 : (Jvm.Cond.methodLink "WhoIsThereLaw" (46 : Nat) ({ cls := "WhoIsThere", name := "wake", desc := "(I)Z" } : Jvm.MethodName)) ∈ xa_G := List.mem_filter.mpr ⟨List.mem_append_right _ (xa_t2 158 rfl), rfl⟩
set_option maxRecDepth 20000 in
theorem tb399 : (Jvm.Cond.instanceMethod ({ cls := "WhoIsThere", name := "wake", desc := "(I)Z" } : Jvm.MethodName)) ∈ xa_G := List.mem_filter.mpr ⟨List.mem_append_right _ (xa_t2 159 rfl), rfl⟩
set_option maxRecDepth 20000 in
theorem tb400 : (Jvm.Cond.selects "WhoIsThere" ({ cls := "WhoIsThere", name := "wake", desc := "(I)Z" } : Jvm.MethodName) ({ cls := "WhoIsThere", name := "wake", desc := "(I)Z" } : Jvm.MethodName)) ∈ xa_G := List.mem_filter.mpr ⟨List.mem_append_right _ (xa_t2 160 rfl), rfl⟩
set_option maxRecDepth 20000 in
theorem tb401 : (Jvm.Cond.code ({ cls := "WhoIsThere", name := "wake", desc := "(I)Z" } : Jvm.MethodName) prog_1_method_9_code (3 : Nat) (Option.some FieldType.boolean)) ∈ xa_G := List.mem_filter.mpr ⟨List.mem_append_right _ (xa_t2 161 rfl), rfl⟩
set_option maxRecDepth 20000 in
theorem tb402 : (Jvm.Cond.methodLink "WhoIsThereLaw" (50 : Nat) ({ cls := "WhoIsThere", name := "fall", desc := "(I)Z" } : Jvm.MethodName)) ∈ xa_G := List.mem_filter.mpr ⟨List.mem_append_right _ (xa_t2 162 rfl), rfl⟩
set_option maxRecDepth 20000 in
theorem tb403 : (Jvm.Cond.instanceMethod ({ cls := "WhoIsThere", name := "fall", desc := "(I)Z" } : Jvm.MethodName)) ∈ xa_G := List.mem_filter.mpr ⟨List.mem_append_right _ (xa_t2 163 rfl), rfl⟩
set_option maxRecDepth 20000 in
theorem tb404 : (Jvm.Cond.selects "WhoIsThere" ({ cls := "WhoIsThere", name := "fall", desc := "(I)Z" } : Jvm.MethodName) ({ cls := "WhoIsThere", name := "fall", desc := "(I)Z" } : Jvm.MethodName)) ∈ xa_G := List.mem_filter.mpr ⟨List.mem_append_right _ (xa_t2 164 rfl), rfl⟩
set_option maxRecDepth 20000 in
theorem tb405 : (Jvm.Cond.code ({ cls := "WhoIsThere", name := "fall", desc := "(I)Z" } : Jvm.MethodName) prog_1_method_10_code (4 : Nat) (Option.some FieldType.boolean)) ∈ xa_G := List.mem_filter.mpr ⟨List.mem_append_right _ (xa_t2 165 rfl), rfl⟩
set_option maxRecDepth 20000 in
theorem tb406 : (Jvm.Cond.methodLink "WhoIsThere" (112 : Nat) ({ cls := "WhoIsThere$Host", name := "goAway", desc := "()V" } : Jvm.MethodName)) ∈ xa_G := List.mem_filter.mpr ⟨List.mem_append_right _ (xa_t2 166 rfl), rfl⟩
set_option maxRecDepth 20000 in
theorem tb407 : (Jvm.Cond.instanceMethod ({ cls := "WhoIsThere$Host", name := "goAway", desc := "()V" } : Jvm.MethodName)) ∈ xa_G := List.mem_filter.mpr ⟨List.mem_append_right _ (xa_t2 167 rfl), rfl⟩
set_option maxRecDepth 20000 in
theorem tb408 : (Jvm.Cond.selects "WhoIsThere$Host" ({ cls := "WhoIsThere$Host", name := "goAway", desc := "()V" } : Jvm.MethodName) ({ cls := "WhoIsThere$Host", name := "goAway", desc := "()V" } : Jvm.MethodName)) ∈ xa_G := List.mem_filter.mpr ⟨List.mem_append_right _ (xa_t2 168 rfl), rfl⟩
set_option maxRecDepth 20000 in
theorem tb409 : (Jvm.Cond.code ({ cls := "WhoIsThere$Host", name := "goAway", desc := "()V" } : Jvm.MethodName) prog_5_method_5_code (1 : Nat) (Option.none : Option FieldType)) ∈ xa_G := List.mem_filter.mpr ⟨List.mem_append_right _ (xa_t2 169 rfl), rfl⟩
set_option maxRecDepth 20000 in
theorem tb410 : (Jvm.Cond.methodLink "WhoIsThere$Host" (69 : Nat) ({ cls := "WhoIsThere$Store", name := "clear", desc := "()V" } : Jvm.MethodName)) ∈ xa_G := List.mem_filter.mpr ⟨List.mem_append_right _ (xa_t2 170 rfl), rfl⟩
set_option maxRecDepth 20000 in
theorem tb411 : (Jvm.Cond.instanceMethod ({ cls := "WhoIsThere$Store", name := "clear", desc := "()V" } : Jvm.MethodName)) ∈ xa_G := List.mem_filter.mpr ⟨List.mem_append_right _ (xa_t2 171 rfl), rfl⟩
set_option maxRecDepth 20000 in
theorem tb412 : (Jvm.Cond.selects "WhoIsThere$Store" ({ cls := "WhoIsThere$Store", name := "clear", desc := "()V" } : Jvm.MethodName) ({ cls := "WhoIsThere$Store", name := "clear", desc := "()V" } : Jvm.MethodName)) ∈ xa_G := List.mem_filter.mpr ⟨List.mem_append_right _ (xa_t2 172 rfl), rfl⟩
set_option maxRecDepth 20000 in
theorem tb413 : (Jvm.Cond.code ({ cls := "WhoIsThere$Store", name := "clear", desc := "()V" } : Jvm.MethodName) prog_8_method_10_code (1 : Nat) (Option.none : Option FieldType)) ∈ xa_G := List.mem_filter.mpr ⟨List.mem_append_right _ (xa_t2 173 rfl), rfl⟩
set_option maxRecDepth 20000 in
theorem tb414 : (Jvm.Cond.methodLink "WhoIsThere$Host" (72 : Nat) ({ cls := "WhoIsThere$Asks", name := "clear", desc := "()V" } : Jvm.MethodName)) ∈ xa_G := List.mem_filter.mpr ⟨List.mem_append_right _ (xa_t2 174 rfl), rfl⟩
set_option maxRecDepth 20000 in
theorem tb415 : (Jvm.Cond.instanceMethod ({ cls := "WhoIsThere$Asks", name := "clear", desc := "()V" } : Jvm.MethodName)) ∈ xa_G := List.mem_filter.mpr ⟨List.mem_append_right _ (xa_t2 175 rfl), rfl⟩
set_option maxRecDepth 20000 in
theorem tb416 : (Jvm.Cond.selects "WhoIsThere$Asks" ({ cls := "WhoIsThere$Asks", name := "clear", desc := "()V" } : Jvm.MethodName) ({ cls := "WhoIsThere$Asks", name := "clear", desc := "()V" } : Jvm.MethodName)) ∈ xa_G := List.mem_filter.mpr ⟨List.mem_append_right _ (xa_t2 176 rfl), rfl⟩
set_option maxRecDepth 20000 in
theorem tb417 : (Jvm.Cond.code ({ cls := "WhoIsThere$Asks", name := "clear", desc := "()V" } : Jvm.MethodName) prog_3_method_8_code (1 : Nat) (Option.none : Option FieldType)) ∈ xa_G := List.mem_filter.mpr ⟨List.mem_append_right _ (xa_t2 177 rfl), rfl⟩
set_option maxRecDepth 20000 in
theorem tb418 : (Jvm.Cond.methodLink "WhoIsThere$Host" (73 : Nat) ({ cls := "WhoIsThere$Answers", name := "clear", desc := "()V" } : Jvm.MethodName)) ∈ xa_G := List.mem_filter.mpr ⟨List.mem_append_right _ (xa_t2 178 rfl), rfl⟩
set_option maxRecDepth 20000 in
theorem tb419 : (Jvm.Cond.instanceMethod ({ cls := "WhoIsThere$Answers", name := "clear", desc := "()V" } : Jvm.MethodName)) ∈ xa_G := List.mem_filter.mpr ⟨List.mem_append_right _ (xa_t2 179 rfl), rfl⟩
set_option maxRecDepth 20000 in
theorem tb420 : (Jvm.Cond.selects "WhoIsThere$Answers" ({ cls := "WhoIsThere$Answers", name := "clear", desc := "()V" } : Jvm.MethodName) ({ cls := "WhoIsThere$Answers", name := "clear", desc := "()V" } : Jvm.MethodName)) ∈ xa_G := List.mem_filter.mpr ⟨List.mem_append_right _ (xa_t2 180 rfl), rfl⟩
set_option maxRecDepth 20000 in
theorem tb421 : (Jvm.Cond.code ({ cls := "WhoIsThere$Answers", name := "clear", desc := "()V" } : Jvm.MethodName) prog_2_method_6_code (1 : Nat) (Option.none : Option FieldType)) ∈ xa_G := List.mem_filter.mpr ⟨List.mem_append_right _ (xa_t2 181 rfl), rfl⟩
set_option maxRecDepth 20000 in
theorem tb422 : (Jvm.Cond.methodLink "WhoIsThereLaw" (54 : Nat) ({ cls := "WhoIsThere", name := "leave", desc := "(I)Z" } : Jvm.MethodName)) ∈ xa_G := List.mem_filter.mpr ⟨List.mem_append_right _ (xa_t2 182 rfl), rfl⟩
set_option maxRecDepth 20000 in
theorem tb423 : (Jvm.Cond.instanceMethod ({ cls := "WhoIsThere", name := "leave", desc := "(I)Z" } : Jvm.MethodName)) ∈ xa_G := List.mem_filter.mpr ⟨List.mem_append_right _ (xa_t2 183 rfl), rfl⟩
set_option maxRecDepth 20000 in
theorem tb424 : (Jvm.Cond.selects "WhoIsThere" ({ cls := "WhoIsThere", name := "leave", desc := "(I)Z" } : Jvm.MethodName) ({ cls := "WhoIsThere", name := "leave", desc := "(I)Z" } : Jvm.MethodName)) ∈ xa_G := List.mem_filter.mpr ⟨List.mem_append_right _ (xa_t2 184 rfl), rfl⟩
set_option maxRecDepth 20000 in
theorem tb425 : (Jvm.Cond.code ({ cls := "WhoIsThere", name := "leave", desc := "(I)Z" } : Jvm.MethodName) prog_1_method_11_code (4 : Nat) (Option.some FieldType.boolean)) ∈ xa_G := List.mem_filter.mpr ⟨List.mem_append_right _ (xa_t2 185 rfl), rfl⟩
set_option maxRecDepth 20000 in
theorem tb426 : (Jvm.Cond.methodLink "WhoIsThere" (118 : Nat) ({ cls := "WhoIsThere", name := "rouse", desc := "(LWhoIsThere$Host;)V" } : Jvm.MethodName)) ∈ xa_G := List.mem_filter.mpr ⟨List.mem_append_right _ (xa_t2 186 rfl), rfl⟩
set_option maxRecDepth 20000 in
theorem tb428 : (Jvm.Cond.instanceMethod ({ cls := "WhoIsThere", name := "rouse", desc := "(LWhoIsThere$Host;)V" } : Jvm.MethodName)) ∈ xa_G := List.mem_filter.mpr ⟨List.mem_append_right _ (xa_t2 188 rfl), rfl⟩
set_option maxRecDepth 20000 in
theorem tb429 : (Jvm.Cond.code ({ cls := "WhoIsThere", name := "rouse", desc := "(LWhoIsThere$Host;)V" } : Jvm.MethodName) prog_1_method_42_code (2 : Nat) (Option.none : Option FieldType)) ∈ xa_G := List.mem_filter.mpr ⟨List.mem_append_right _ (xa_t2 189 rfl), rfl⟩
set_option maxRecDepth 20000 in
theorem tb430 : (Jvm.Cond.methodLink "WhoIsThereLaw" (58 : Nat) ({ cls := "WhoIsThere", name := "keeper", desc := "(IZ)Z" } : Jvm.MethodName)) ∈ xa_G := List.mem_filter.mpr ⟨List.mem_append_right _ (xa_t2 190 rfl), rfl⟩
set_option maxRecDepth 20000 in
theorem tb431 : (Jvm.Cond.instanceMethod ({ cls := "WhoIsThere", name := "keeper", desc := "(IZ)Z" } : Jvm.MethodName)) ∈ xa_G := List.mem_filter.mpr ⟨List.mem_append_right _ (xa_t2 191 rfl), rfl⟩
set_option maxRecDepth 20000 in
theorem tb432 : (Jvm.Cond.selects "WhoIsThere" ({ cls := "WhoIsThere", name := "keeper", desc := "(IZ)Z" } : Jvm.MethodName) ({ cls := "WhoIsThere", name := "keeper", desc := "(IZ)Z" } : Jvm.MethodName)) ∈ xa_G := List.mem_filter.mpr ⟨List.mem_append_right _ (xa_t2 192 rfl), rfl⟩
set_option maxRecDepth 20000 in
theorem tb433 : (Jvm.Cond.code ({ cls := "WhoIsThere", name := "keeper", desc := "(IZ)Z" } : Jvm.MethodName) prog_1_method_12_code (4 : Nat) (Option.some FieldType.boolean)) ∈ xa_G := List.mem_filter.mpr ⟨List.mem_append_right _ (xa_t2 193 rfl), rfl⟩
set_option maxRecDepth 20000 in
theorem tb434 : (Jvm.Cond.methodLink "WhoIsThereLaw" (63 : Nat) ({ cls := "WhoIsThere", name := "bridge", desc := "(III)Z" } : Jvm.MethodName)) ∈ xa_G := List.mem_filter.mpr ⟨List.mem_append_right _ (xa_t2 194 rfl), rfl⟩
set_option maxRecDepth 20000 in
theorem tb435 : (Jvm.Cond.instanceMethod ({ cls := "WhoIsThere", name := "bridge", desc := "(III)Z" } : Jvm.MethodName)) ∈ xa_G := List.mem_filter.mpr ⟨List.mem_append_right _ (xa_t2 195 rfl), rfl⟩
set_option maxRecDepth 20000 in
theorem tb436 : (Jvm.Cond.selects "WhoIsThere" ({ cls := "WhoIsThere", name := "bridge", desc := "(III)Z" } : Jvm.MethodName) ({ cls := "WhoIsThere", name := "bridge", desc := "(III)Z" } : Jvm.MethodName)) ∈ xa_G := List.mem_filter.mpr ⟨List.mem_append_right _ (xa_t2 196 rfl), rfl⟩
set_option maxRecDepth 20000 in
theorem tb437 : (Jvm.Cond.code ({ cls := "WhoIsThere", name := "bridge", desc := "(III)Z" } : Jvm.MethodName) prog_1_method_13_code (5 : Nat) (Option.some FieldType.boolean)) ∈ xa_G := List.mem_filter.mpr ⟨List.mem_append_right _ (xa_t2 197 rfl), rfl⟩
set_option maxRecDepth 20000 in
theorem tb438 : (Jvm.Cond.constant "WhoIsThere" (122 : Nat) (65535 : Int32)) ∈ xa_G := List.mem_filter.mpr ⟨List.mem_append_right _ (xa_t2 198 rfl), rfl⟩
set_option maxRecDepth 20000 in
theorem tb439 : (Jvm.Cond.methodLink "WhoIsThere" (123 : Nat) ({ cls := "WhoIsThere$Asks", name := "isEmpty", desc := "()Z" } : Jvm.MethodName)) ∈ xa_G := List.mem_filter.mpr ⟨List.mem_append_right _ (xa_t2 199 rfl), rfl⟩
set_option maxRecDepth 20000 in
theorem tb440 : (Jvm.Cond.instanceMethod ({ cls := "WhoIsThere$Asks", name := "isEmpty", desc := "()Z" } : Jvm.MethodName)) ∈ xa_G := List.mem_filter.mpr ⟨List.mem_append_right _ (xa_t2 200 rfl), rfl⟩
set_option maxRecDepth 20000 in
theorem tb441 : (Jvm.Cond.selects "WhoIsThere$Asks" ({ cls := "WhoIsThere$Asks", name := "isEmpty", desc := "()Z" } : Jvm.MethodName) ({ cls := "WhoIsThere$Asks", name := "isEmpty", desc := "()Z" } : Jvm.MethodName)) ∈ xa_G := List.mem_filter.mpr ⟨List.mem_append_right _ (xa_t2 201 rfl), rfl⟩
set_option maxRecDepth 20000 in
theorem tb442 : (Jvm.Cond.code ({ cls := "WhoIsThere$Asks", name := "isEmpty", desc := "()Z" } : Jvm.MethodName) prog_3_method_4_code (1 : Nat) (Option.some FieldType.boolean)) ∈ xa_G := List.mem_filter.mpr ⟨List.mem_append_right _ (xa_t2 202 rfl), rfl⟩
set_option maxRecDepth 20000 in
theorem tb443 : (Jvm.Cond.methodLink "WhoIsThere" (127 : Nat) ({ cls := "WhoIsThere", name := "hasHadServices", desc := "(LWhoIsThere$Host;)Z" } : Jvm.MethodName)) ∈ xa_G := List.mem_filter.mpr ⟨List.mem_append_right _ (xa_t2 203 rfl), rfl⟩
set_option maxRecDepth 20000 in
theorem tb445 : (Jvm.Cond.instanceMethod ({ cls := "WhoIsThere", name := "hasHadServices", desc := "(LWhoIsThere$Host;)Z" } : Jvm.MethodName)) ∈ xa_G := List.mem_filter.mpr ⟨List.mem_append_right _ (xa_t2 205 rfl), rfl⟩
set_option maxRecDepth 20000 in
theorem tb446 : (Jvm.Cond.code ({ cls := "WhoIsThere", name := "hasHadServices", desc := "(LWhoIsThere$Host;)Z" } : Jvm.MethodName) prog_1_method_36_code (3 : Nat) (Option.some FieldType.boolean)) ∈ xa_G := List.mem_filter.mpr ⟨List.mem_append_right _ (xa_t2 206 rfl), rfl⟩
set_option maxRecDepth 20000 in
theorem tb447 : (Jvm.Cond.methodLink "WhoIsThere" (131 : Nat) ({ cls := "WhoIsThere", name := "isProxyOfASleeper", desc := "(LWhoIsThere$Host;)Z" } : Jvm.MethodName)) ∈ xa_G := List.mem_filter.mpr ⟨List.mem_append_right _ (xa_t2 207 rfl), rfl⟩
set_option maxRecDepth 20000 in
theorem tb449 : (Jvm.Cond.instanceMethod ({ cls := "WhoIsThere", name := "isProxyOfASleeper", desc := "(LWhoIsThere$Host;)Z" } : Jvm.MethodName)) ∈ xa_G := List.mem_filter.mpr ⟨List.mem_append_right _ (xa_t2 209 rfl), rfl⟩
set_option maxRecDepth 20000 in
theorem tb450 : (Jvm.Cond.code ({ cls := "WhoIsThere", name := "isProxyOfASleeper", desc := "(LWhoIsThere$Host;)Z" } : Jvm.MethodName) prog_1_method_37_code (3 : Nat) (Option.some FieldType.boolean)) ∈ xa_G := List.mem_filter.mpr ⟨List.mem_append_right _ (xa_t2 210 rfl), rfl⟩
set_option maxRecDepth 20000 in
theorem tb451 : (Jvm.Cond.methodLink "WhoIsThere" (138 : Nat) ({ cls := "WhoIsThere$Store", name := "clear", desc := "()V" } : Jvm.MethodName)) ∈ xa_G := List.mem_filter.mpr ⟨List.mem_append_right _ (xa_t2 211 rfl), rfl⟩
set_option maxRecDepth 20000 in
theorem tb452 : (Jvm.Cond.methodLink "WhoIsThere" (147 : Nat) ({ cls := "WhoIsThere$Answers", name := "clear", desc := "()V" } : Jvm.MethodName)) ∈ xa_G := List.mem_filter.mpr ⟨List.mem_append_right _ (xa_t2 212 rfl), rfl⟩
set_option maxRecDepth 20000 in
theorem tb453 : (Jvm.Cond.classLink "WhoIsThere" (150 : Nat) "WhoIsThere$Bridge") ∈ xa_G := List.mem_filter.mpr ⟨List.mem_append_right _ (xa_t2 213 rfl), rfl⟩
set_option maxRecDepth 20000 in
theorem tb454 : (Jvm.Cond.instantiable "WhoIsThere$Bridge" (5 : Nat)) ∈ xa_G := List.mem_filter.mpr ⟨List.mem_append_right _ (xa_t2 214 rfl), rfl⟩
set_option maxRecDepth 20000 in
theorem tb455 : (Jvm.Cond.methodLink "WhoIsThere" (152 : Nat) ({ cls := "WhoIsThere$Bridge", name := "<init>", desc := "(II)V" } : Jvm.MethodName)) ∈ xa_G := List.mem_filter.mpr ⟨List.mem_append_right _ (xa_t2 215 rfl), rfl⟩
set_option maxRecDepth 20000 in
theorem tb456 : (Jvm.Cond.instanceMethod ({ cls := "WhoIsThere$Bridge", name := "<init>", desc := "(II)V" } : Jvm.MethodName)) ∈ xa_G := List.mem_filter.mpr ⟨List.mem_append_right _ (xa_t2 216 rfl), rfl⟩
set_option maxRecDepth 20000 in
theorem tb457 : (Jvm.Cond.code ({ cls := "WhoIsThere$Bridge", name := "<init>", desc := "(II)V" } : Jvm.MethodName) prog_4_method_1_code (3 : Nat) (Option.none : Option FieldType)) ∈ xa_G := List.mem_filter.mpr ⟨List.mem_append_right _ (xa_t2 217 rfl), rfl⟩
set_option maxRecDepth 20000 in
theorem tb458 : (Jvm.Cond.methodLink "WhoIsThere$Bridge" (1 : Nat) ({ cls := "java/lang/Object", name := "<init>", desc := "()V" } : Jvm.MethodName)) ∈ xa_G := List.mem_filter.mpr ⟨List.mem_append_right _ (xa_t2 218 rfl), rfl⟩
set_option maxRecDepth 20000 in
theorem tb459 : (Jvm.Cond.classLink "WhoIsThere$Bridge" (7 : Nat) "WhoIsThere$Letter") ∈ xa_G := List.mem_filter.mpr ⟨List.mem_append_right _ (xa_t2 219 rfl), rfl⟩
set_option maxRecDepth 20000 in
theorem tb461 : (Jvm.Cond.fieldLink "WhoIsThere$Bridge" (26 : Nat) "WhoIsThere$Bridge" "kinds" "I") ∈ xa_G := List.mem_filter.mpr ⟨List.mem_append_right _ (xa_t2 221 rfl), rfl⟩
set_option maxRecDepth 20000 in
theorem tb462 : (Jvm.Cond.fieldLink "WhoIsThere$Bridge" (22 : Nat) "WhoIsThere$Bridge" "net" "I") ∈ xa_G := List.mem_filter.mpr ⟨List.mem_append_right _ (xa_t2 222 rfl), rfl⟩
set_option maxRecDepth 20000 in
theorem tb463 : (Jvm.Cond.fieldLink "WhoIsThere$Host" (62 : Nat) "WhoIsThere$Bridge" "net" "I") ∈ xa_G := List.mem_filter.mpr ⟨List.mem_append_right _ (xa_t2 223 rfl), rfl⟩
set_option maxRecDepth 20000 in
theorem tb464 : (Jvm.Cond.fieldLink "WhoIsThere" (209 : Nat) "WhoIsThere$Bridge" "net" "I") ∈ xa_G := List.mem_filter.mpr ⟨List.mem_append_right _ (xa_t2 224 rfl), rfl⟩
set_option maxRecDepth 20000 in
theorem tb465 : (Jvm.Cond.fieldLink "WhoIsThere$Bridge" (10 : Nat) "WhoIsThere$Bridge" "letter" "LWhoIsThere$Letter;") ∈ xa_G := List.mem_filter.mpr ⟨List.mem_append_right _ (xa_t2 225 rfl), rfl⟩
set_option maxRecDepth 20000 in
theorem tb466 : (Jvm.Cond.fieldLink "WhoIsThere$Host" (75 : Nat) "WhoIsThere$Bridge" "letter" "LWhoIsThere$Letter;") ∈ xa_G := List.mem_filter.mpr ⟨List.mem_append_right _ (xa_t2 226 rfl), rfl⟩
set_option maxRecDepth 20000 in
theorem tb467 : (Jvm.Cond.fieldLink "WhoIsThere" (343 : Nat) "WhoIsThere$Bridge" "letter" "LWhoIsThere$Letter;") ∈ xa_G := List.mem_filter.mpr ⟨List.mem_append_right _ (xa_t2 227 rfl), rfl⟩
set_option maxRecDepth 20000 in
theorem tb468 : (Jvm.Cond.fieldLink "WhoIsThere$Bridge" (16 : Nat) "WhoIsThere$Bridge" "waitingForHome" "LWhoIsThere$Letter;") ∈ xa_G := List.mem_filter.mpr ⟨List.mem_append_right _ (xa_t2 228 rfl), rfl⟩
set_option maxRecDepth 20000 in
theorem tb469 : (Jvm.Cond.fieldLink "WhoIsThere" (340 : Nat) "WhoIsThere$Bridge" "waitingForHome" "LWhoIsThere$Letter;") ∈ xa_G := List.mem_filter.mpr ⟨List.mem_append_right _ (xa_t2 229 rfl), rfl⟩
set_option maxRecDepth 20000 in
theorem tb470 : (Jvm.Cond.fieldLink "WhoIsThere$Bridge" (19 : Nat) "WhoIsThere$Bridge" "waitingForSecond" "LWhoIsThere$Letter;") ∈ xa_G := List.mem_filter.mpr ⟨List.mem_append_right _ (xa_t2 230 rfl), rfl⟩
set_option maxRecDepth 20000 in
theorem tb471 : (Jvm.Cond.fieldLink "WhoIsThere" (344 : Nat) "WhoIsThere$Bridge" "waitingForSecond" "LWhoIsThere$Letter;") ∈ xa_G := List.mem_filter.mpr ⟨List.mem_append_right _ (xa_t2 231 rfl), rfl⟩
set_option maxRecDepth 20000 in
theorem tb483 : (Jvm.Cond.methodLink "WhoIsThereLaw" (67 : Nat) ({ cls := "WhoIsThere", name := "lose", desc := "(II)Z" } : Jvm.MethodName)) ∈ xa_G := List.mem_filter.mpr ⟨List.mem_append_right _ (xa_t3 3 rfl), rfl⟩
set_option maxRecDepth 20000 in
theorem tb484 : (Jvm.Cond.instanceMethod ({ cls := "WhoIsThere", name := "lose", desc := "(II)Z" } : Jvm.MethodName)) ∈ xa_G := List.mem_filter.mpr ⟨List.mem_append_right _ (xa_t3 4 rfl), rfl⟩
set_option maxRecDepth 20000 in
theorem tb485 : (Jvm.Cond.selects "WhoIsThere" ({ cls := "WhoIsThere", name := "lose", desc := "(II)Z" } : Jvm.MethodName) ({ cls := "WhoIsThere", name := "lose", desc := "(II)Z" } : Jvm.MethodName)) ∈ xa_G := List.mem_filter.mpr ⟨List.mem_append_right _ (xa_t3 5 rfl), rfl⟩
set_option maxRecDepth 20000 in
theorem tb486 : (Jvm.Cond.code ({ cls := "WhoIsThere", name := "lose", desc := "(II)Z" } : Jvm.MethodName) prog_1_method_14_code (4 : Nat) (Option.some FieldType.boolean)) ∈ xa_G := List.mem_filter.mpr ⟨List.mem_append_right _ (xa_t3 6 rfl), rfl⟩
set_option maxRecDepth 20000 in
theorem tb487 : (Jvm.Cond.methodLink "WhoIsThereLaw" (71 : Nat) ({ cls := "WhoIsThere", name := "deaf", desc := "(II)Z" } : Jvm.MethodName)) ∈ xa_G := List.mem_filter.mpr ⟨List.mem_append_right _ (xa_t3 7 rfl), rfl⟩
set_option maxRecDepth 20000 in
theorem tb488 : (Jvm.Cond.instanceMethod ({ cls := "WhoIsThere", name := "deaf", desc := "(II)Z" } : Jvm.MethodName)) ∈ xa_G := List.mem_filter.mpr ⟨List.mem_append_right _ (xa_t3 8 rfl), rfl⟩
set_option maxRecDepth 20000 in
theorem tb489 : (Jvm.Cond.selects "WhoIsThere" ({ cls := "WhoIsThere", name := "deaf", desc := "(II)Z" } : Jvm.MethodName) ({ cls := "WhoIsThere", name := "deaf", desc := "(II)Z" } : Jvm.MethodName)) ∈ xa_G := List.mem_filter.mpr ⟨List.mem_append_right _ (xa_t3 9 rfl), rfl⟩
set_option maxRecDepth 20000 in
theorem tb490 : (Jvm.Cond.code ({ cls := "WhoIsThere", name := "deaf", desc := "(II)Z" } : Jvm.MethodName) prog_1_method_15_code (4 : Nat) (Option.some FieldType.boolean)) ∈ xa_G := List.mem_filter.mpr ⟨List.mem_append_right _ (xa_t3 10 rfl), rfl⟩
set_option maxRecDepth 20000 in
theorem tb491 : (Jvm.Cond.methodLink "WhoIsThereLaw" (75 : Nat) ({ cls := "WhoIsThere", name := "join", desc := "(II)Z" } : Jvm.MethodName)) ∈ xa_G := List.mem_filter.mpr ⟨List.mem_append_right _ (xa_t3 11 rfl), rfl⟩
set_option maxRecDepth 20000 in
theorem tb492 : (Jvm.Cond.instanceMethod ({ cls := "WhoIsThere", name := "join", desc := "(II)Z" } : Jvm.MethodName)) ∈ xa_G := List.mem_filter.mpr ⟨List.mem_append_right _ (xa_t3 12 rfl), rfl⟩
set_option maxRecDepth 20000 in
theorem tb493 : (Jvm.Cond.selects "WhoIsThere" ({ cls := "WhoIsThere", name := "join", desc := "(II)Z" } : Jvm.MethodName) ({ cls := "WhoIsThere", name := "join", desc := "(II)Z" } : Jvm.MethodName)) ∈ xa_G := List.mem_filter.mpr ⟨List.mem_append_right _ (xa_t3 13 rfl), rfl⟩
set_option maxRecDepth 20000 in
theorem tb494 : (Jvm.Cond.code ({ cls := "WhoIsThere", name := "join", desc := "(II)Z" } : Jvm.MethodName) prog_1_method_16_code (4 : Nat) (Option.some FieldType.boolean)) ∈ xa_G := List.mem_filter.mpr ⟨List.mem_append_right _ (xa_t3 14 rfl), rfl⟩
set_option maxRecDepth 20000 in
theorem tb495 : (Jvm.Cond.methodLink "WhoIsThere" (165 : Nat) ({ cls := "WhoIsThere$Host", name := "move", desc := "(II)V" } : Jvm.MethodName)) ∈ xa_G := List.mem_filter.mpr ⟨List.mem_append_right _ (xa_t3 15 rfl), rfl⟩
set_option maxRecDepth 20000 in
theorem tb496 : (Jvm.Cond.instanceMethod ({ cls := "WhoIsThere$Host", name := "move", desc := "(II)V" } : Jvm.MethodName)) ∈ xa_G := List.mem_filter.mpr ⟨List.mem_append_right _ (xa_t3 16 rfl), rfl⟩
set_option maxRecDepth 20000 in
theorem tb497 : (Jvm.Cond.selects "WhoIsThere$Host" ({ cls := "WhoIsThere$Host", name := "move", desc := "(II)V" } : Jvm.MethodName) ({ cls := "WhoIsThere$Host", name := "move", desc := "(II)V" } : Jvm.MethodName)) ∈ xa_G := List.mem_filter.mpr ⟨List.mem_append_right _ (xa_t3 17 rfl), rfl⟩
set_option maxRecDepth 20000 in
theorem tb498 : (Jvm.Cond.code ({ cls := "WhoIsThere$Host", name := "move", desc := "(II)V" } : Jvm.MethodName) prog_5_method_4_code (3 : Nat) (Option.none : Option FieldType)) ∈ xa_G := List.mem_filter.mpr ⟨List.mem_append_right _ (xa_t3 18 rfl), rfl⟩
set_option maxRecDepth 20000 in
theorem tb499 : (Jvm.Cond.methodLink "WhoIsThereLaw" (79 : Nat) ({ cls := "WhoIsThere", name := "tick", desc := "(I)I" } : Jvm.MethodName)) ∈ xa_G := List.mem_filter.mpr ⟨List.mem_append_right _ (xa_t3 19 rfl), rfl⟩
set_option maxRecDepth 20000 in
theorem tb500 : (Jvm.Cond.instanceMethod ({ cls := "WhoIsThere", name := "tick", desc := "(I)I" } : Jvm.MethodName)) ∈ xa_G := List.mem_filter.mpr ⟨List.mem_append_right _ (xa_t3 20 rfl), rfl⟩
set_option maxRecDepth 20000 in
theorem tb501 : (Jvm.Cond.selects "WhoIsThere" ({ cls := "WhoIsThere", name := "tick", desc := "(I)I" } : Jvm.MethodName) ({ cls := "WhoIsThere", name := "tick", desc := "(I)I" } : Jvm.MethodName)) ∈ xa_G := List.mem_filter.mpr ⟨List.mem_append_right _ (xa_t3 21 rfl), rfl⟩
set_option maxRecDepth 20000 in
theorem tb502 : (Jvm.Cond.code ({ cls := "WhoIsThere", name := "tick", desc := "(I)I" } : Jvm.MethodName) prog_1_method_17_code (3 : Nat) (Option.some FieldType.int)) ∈ xa_G := List.mem_filter.mpr ⟨List.mem_append_right _ (xa_t3 22 rfl), rfl⟩
set_option maxRecDepth 20000 in
theorem tb503 : (Jvm.Cond.methodLink "WhoIsThere" (168 : Nat) ({ cls := "WhoIsThere", name := "holdClaimedNames", desc := "()V" } : Jvm.MethodName)) ∈ xa_G := List.mem_filter.mpr ⟨List.mem_append_right _ (xa_t3 23 rfl), rfl⟩
set_option maxRecDepth 20000 in
theorem tb505 : (Jvm.Cond.instanceMethod ({ cls := "WhoIsThere", name := "holdClaimedNames", desc := "()V" } : Jvm.MethodName)) ∈ xa_G := List.mem_filter.mpr ⟨List.mem_append_right _ (xa_t3 25 rfl), rfl⟩
set_option maxRecDepth 20000 in
theorem tb506 : (Jvm.Cond.code ({ cls := "WhoIsThere", name := "holdClaimedNames", desc := "()V" } : Jvm.MethodName) prog_1_method_45_code (3 : Nat) (Option.none : Option FieldType)) ∈ xa_G := List.mem_filter.mpr ⟨List.mem_append_right _ (xa_t3 26 rfl), rfl⟩
set_option maxRecDepth 20000 in
theorem tb507 : (Jvm.Cond.methodLink "WhoIsThere" (171 : Nat) ({ cls := "WhoIsThere", name := "writeLetters", desc := "()V" } : Jvm.MethodName)) ∈ xa_G := List.mem_filter.mpr ⟨List.mem_append_right _ (xa_t3 27 rfl), rfl⟩
set_option maxRecDepth 20000 in
theorem tb509 : (Jvm.Cond.instanceMethod ({ cls := "WhoIsThere", name := "writeLetters", desc := "()V" } : Jvm.MethodName)) ∈ xa_G := List.mem_filter.mpr ⟨List.mem_append_right _ (xa_t3 29 rfl), rfl⟩
set_option maxRecDepth 20000 in
theorem tb510 : (Jvm.Cond.code ({ cls := "WhoIsThere", name := "writeLetters", desc := "()V" } : Jvm.MethodName) prog_1_method_46_code (3 : Nat) (Option.none : Option FieldType)) ∈ xa_G := List.mem_filter.mpr ⟨List.mem_append_right _ (xa_t3 30 rfl), rfl⟩
set_option maxRecDepth 20000 in
theorem tb511 : (Jvm.Cond.methodLink "WhoIsThere" (274 : Nat) ({ cls := "WhoIsThere$Host", name := "clearLetters", desc := "()V" } : Jvm.MethodName)) ∈ xa_G := List.mem_filter.mpr ⟨List.mem_append_right _ (xa_t3 31 rfl), rfl⟩
set_option maxRecDepth 20000 in
theorem tb512 : (Jvm.Cond.instanceMethod ({ cls := "WhoIsThere$Host", name := "clearLetters", desc := "()V" } : Jvm.MethodName)) ∈ xa_G := List.mem_filter.mpr ⟨List.mem_append_right _ (xa_t3 32 rfl), rfl⟩
set_option maxRecDepth 20000 in
theorem tb513 : (Jvm.Cond.selects "WhoIsThere$Host" ({ cls := "WhoIsThere$Host", name := "clearLetters", desc := "()V" } : Jvm.MethodName) ({ cls := "WhoIsThere$Host", name := "clearLetters", desc := "()V" } : Jvm.MethodName)) ∈ xa_G := List.mem_filter.mpr ⟨List.mem_append_right _ (xa_t3 33 rfl), rfl⟩
set_option maxRecDepth 20000 in
theorem tb514 : (Jvm.Cond.code ({ cls := "WhoIsThere$Host", name := "clearLetters", desc := "()V" } : Jvm.MethodName) prog_5_method_6_code (1 : Nat) (Option.none : Option FieldType)) ∈ xa_G := List.mem_filter.mpr ⟨List.mem_append_right _ (xa_t3 34 rfl), rfl⟩
set_option maxRecDepth 20000 in
theorem tb515 : (Jvm.Cond.methodLink "WhoIsThere$Host" (74 : Nat) ({ cls := "WhoIsThere$Letter", name := "clear", desc := "()V" } : Jvm.MethodName)) ∈ xa_G := List.mem_filter.mpr ⟨List.mem_append_right _ (xa_t3 35 rfl), rfl⟩
set_option maxRecDepth 20000 in
theorem tb516 : (Jvm.Cond.instanceMethod ({ cls := "WhoIsThere$Letter", name := "clear", desc := "()V" } : Jvm.MethodName)) ∈ xa_G := List.mem_filter.mpr ⟨List.mem_append_right _ (xa_t3 36 rfl), rfl⟩
set_option maxRecDepth 20000 in
theorem tb517 : (Jvm.Cond.selects "WhoIsThere$Letter" ({ cls := "WhoIsThere$Letter", name := "clear", desc := "()V" } : Jvm.MethodName) ({ cls := "WhoIsThere$Letter", name := "clear", desc := "()V" } : Jvm.MethodName)) ∈ xa_G := List.mem_filter.mpr ⟨List.mem_append_right _ (xa_t3 37 rfl), rfl⟩
set_option maxRecDepth 20000 in
theorem tb518 : (Jvm.Cond.code ({ cls := "WhoIsThere$Letter", name := "clear", desc := "()V" } : Jvm.MethodName) prog_6_method_4_code (1 : Nat) (Option.none : Option FieldType)) ∈ xa_G := List.mem_filter.mpr ⟨List.mem_append_right _ (xa_t3 38 rfl), rfl⟩
set_option maxRecDepth 20000 in
theorem tb519 : (Jvm.Cond.methodLink "WhoIsThere" (277 : Nat) ({ cls := "WhoIsThere", name := "writeByes", desc := "(LWhoIsThere$Host;)V" } : Jvm.MethodName)) ∈ xa_G := List.mem_filter.mpr ⟨List.mem_append_right _ (xa_t3 39 rfl), rfl⟩
set_option maxRecDepth 20000 in
theorem tb521 : (Jvm.Cond.instanceMethod ({ cls := "WhoIsThere", name := "writeByes", desc := "(LWhoIsThere$Host;)V" } : Jvm.MethodName)) ∈ xa_G := List.mem_filter.mpr ⟨List.mem_append_right _ (xa_t3 41 rfl), rfl⟩
set_option maxRecDepth 20000 in
theorem tb522 : (Jvm.Cond.code ({ cls := "WhoIsThere", name := "writeByes", desc := "(LWhoIsThere$Host;)V" } : Jvm.MethodName) prog_1_method_49_code (4 : Nat) (Option.none : Option FieldType)) ∈ xa_G := List.mem_filter.mpr ⟨List.mem_append_right _ (xa_t3 42 rfl), rfl⟩
set_option maxRecDepth 20000 in
theorem tb523 : (Jvm.Cond.methodLink "WhoIsThere" (322 : Nat) ({ cls := "WhoIsThere$Letter", name := "addBye", desc := "(II)V" } : Jvm.MethodName)) ∈ xa_G := List.mem_filter.mpr ⟨List.mem_append_right _ (xa_t3 43 rfl), rfl⟩
set_option maxRecDepth 20000 in
theorem tb524 : (Jvm.Cond.instanceMethod ({ cls := "WhoIsThere$Letter", name := "addBye", desc := "(II)V" } : Jvm.MethodName)) ∈ xa_G := List.mem_filter.mpr ⟨List.mem_append_right _ (xa_t3 44 rfl), rfl⟩
set_option maxRecDepth 20000 in
theorem tb525 : (Jvm.Cond.selects "WhoIsThere$Letter" ({ cls := "WhoIsThere$Letter", name := "addBye", desc := "(II)V" } : Jvm.MethodName) ({ cls := "WhoIsThere$Letter", name := "addBye", desc := "(II)V" } : Jvm.MethodName)) ∈ xa_G := List.mem_filter.mpr ⟨List.mem_append_right _ (xa_t3 45 rfl), rfl⟩
set_option maxRecDepth 20000 in
theorem tb526 : (Jvm.Cond.code ({ cls := "WhoIsThere$Letter", name := "addBye", desc := "(II)V" } : Jvm.MethodName) prog_6_method_11_code (3 : Nat) (Option.none : Option FieldType)) ∈ xa_G := List.mem_filter.mpr ⟨List.mem_append_right _ (xa_t3 46 rfl), rfl⟩
set_option maxRecDepth 20000 in
theorem tb527 : (Jvm.Cond.methodLink "WhoIsThere" (284 : Nat) ({ cls := "WhoIsThere", name := "post", desc := "(LWhoIsThere$Host;LWhoIsThere$Letter;I)V" } : Jvm.MethodName)) ∈ xa_G := List.mem_filter.mpr ⟨List.mem_append_right _ (xa_t3 47 rfl), rfl⟩
set_option maxRecDepth 20000 in
theorem tb529 : (Jvm.Cond.instanceMethod ({ cls := "WhoIsThere", name := "post", desc := "(LWhoIsThere$Host;LWhoIsThere$Letter;I)V" } : Jvm.MethodName)) ∈ xa_G := List.mem_filter.mpr ⟨List.mem_append_right _ (xa_t3 49 rfl), rfl⟩
set_option maxRecDepth 20000 in
theorem tb530 : (Jvm.Cond.code ({ cls := "WhoIsThere", name := "post", desc := "(LWhoIsThere$Host;LWhoIsThere$Letter;I)V" } : Jvm.MethodName) prog_1_method_53_code (4 : Nat) (Option.none : Option FieldType)) ∈ xa_G := List.mem_filter.mpr ⟨List.mem_append_right _ (xa_t3 50 rfl), rfl⟩
set_option maxRecDepth 20000 in
theorem tb531 : (Jvm.Cond.methodLink "WhoIsThere" (347 : Nat) ({ cls := "WhoIsThere$Letter", name := "isEmpty", desc := "()Z" } : Jvm.MethodName)) ∈ xa_G := List.mem_filter.mpr ⟨List.mem_append_right _ (xa_t3 51 rfl), rfl⟩
set_option maxRecDepth 20000 in
theorem tb532 : (Jvm.Cond.instanceMethod ({ cls := "WhoIsThere$Letter", name := "isEmpty", desc := "()Z" } : Jvm.MethodName)) ∈ xa_G := List.mem_filter.mpr ⟨List.mem_append_right _ (xa_t3 52 rfl), rfl⟩
set_option maxRecDepth 20000 in
theorem tb533 : (Jvm.Cond.selects "WhoIsThere$Letter" ({ cls := "WhoIsThere$Letter", name := "isEmpty", desc := "()Z" } : Jvm.MethodName) ({ cls := "WhoIsThere$Letter", name := "isEmpty", desc := "()Z" } : Jvm.MethodName)) ∈ xa_G := List.mem_filter.mpr ⟨List.mem_append_right _ (xa_t3 53 rfl), rfl⟩
set_option maxRecDepth 20000 in
theorem tb534 : (Jvm.Cond.code ({ cls := "WhoIsThere$Letter", name := "isEmpty", desc := "()Z" } : Jvm.MethodName) prog_6_method_2_code (1 : Nat) (Option.some FieldType.boolean)) ∈ xa_G := List.mem_filter.mpr ⟨List.mem_append_right _ (xa_t3 54 rfl), rfl⟩
set_option maxRecDepth 20000 in
theorem tb535 : (Jvm.Cond.methodLink "WhoIsThere" (288 : Nat) ({ cls := "WhoIsThere", name := "writeCarried", desc := "(LWhoIsThere$Host;LWhoIsThere$Bridge;)V" } : Jvm.MethodName)) ∈ xa_G := List.mem_filter.mpr ⟨List.mem_append_right _ (xa_t3 55 rfl), rfl⟩
set_option maxRecDepth 20000 in
theorem tb537 : (Jvm.Cond.instanceMethod ({ cls := "WhoIsThere", name := "writeCarried", desc := "(LWhoIsThere$Host;LWhoIsThere$Bridge;)V" } : Jvm.MethodName)) ∈ xa_G := List.mem_filter.mpr ⟨List.mem_append_right _ (xa_t3 57 rfl), rfl⟩
set_option maxRecDepth 20000 in
theorem tb538 : (Jvm.Cond.code ({ cls := "WhoIsThere", name := "writeCarried", desc := "(LWhoIsThere$Host;LWhoIsThere$Bridge;)V" } : Jvm.MethodName) prog_1_method_52_code (4 : Nat) (Option.none : Option FieldType)) ∈ xa_G := List.mem_filter.mpr ⟨List.mem_append_right _ (xa_t3 58 rfl), rfl⟩
set_option maxRecDepth 20000 in
theorem tb539 : (Jvm.Cond.methodLink "WhoIsThere" (292 : Nat) ({ cls := "WhoIsThere", name := "writeAsks", desc := "(LWhoIsThere$Host;)V" } : Jvm.MethodName)) ∈ xa_G := List.mem_filter.mpr ⟨List.mem_append_right _ (xa_t3 59 rfl), rfl⟩
set_option maxRecDepth 20000 in
theorem tb541 : (Jvm.Cond.instanceMethod ({ cls := "WhoIsThere", name := "writeAsks", desc := "(LWhoIsThere$Host;)V" } : Jvm.MethodName)) ∈ xa_G := List.mem_filter.mpr ⟨List.mem_append_right _ (xa_t3 61 rfl), rfl⟩
set_option maxRecDepth 20000 in
theorem tb542 : (Jvm.Cond.code ({ cls := "WhoIsThere", name := "writeAsks", desc := "(LWhoIsThere$Host;)V" } : Jvm.MethodName) prog_1_method_47_code (3 : Nat) (Option.none : Option FieldType)) ∈ xa_G := List.mem_filter.mpr ⟨List.mem_append_right _ (xa_t3 62 rfl), rfl⟩
set_option maxRecDepth 20000 in
theorem tb543 : (Jvm.Cond.methodLink "WhoIsThere" (301 : Nat) ({ cls := "WhoIsThere$Asks", name := "isDue", desc := "(II)Z" } : Jvm.MethodName)) ∈ xa_G := List.mem_filter.mpr ⟨List.mem_append_right _ (xa_t3 63 rfl), rfl⟩
set_option maxRecDepth 20000 in
theorem tb544 : (Jvm.Cond.instanceMethod ({ cls := "WhoIsThere$Asks", name := "isDue", desc := "(II)Z" } : Jvm.MethodName)) ∈ xa_G := List.mem_filter.mpr ⟨List.mem_append_right _ (xa_t3 64 rfl), rfl⟩
set_option maxRecDepth 20000 in
theorem tb545 : (Jvm.Cond.selects "WhoIsThere$Asks" ({ cls := "WhoIsThere$Asks", name := "isDue", desc := "(II)Z" } : Jvm.MethodName) ({ cls := "WhoIsThere$Asks", name := "isDue", desc := "(II)Z" } : Jvm.MethodName)) ∈ xa_G := List.mem_filter.mpr ⟨List.mem_append_right _ (xa_t3 65 rfl), rfl⟩
set_option maxRecDepth 20000 in
theorem tb546 : (Jvm.Cond.code ({ cls := "WhoIsThere$Asks", name := "isDue", desc := "(II)Z" } : Jvm.MethodName) prog_3_method_3_code (3 : Nat) (Option.some FieldType.boolean)) ∈ xa_G := List.mem_filter.mpr ⟨List.mem_append_right _ (xa_t3 66 rfl), rfl⟩
set_option maxRecDepth 20000 in
theorem tb547 : (Jvm.Cond.methodLink "WhoIsThere$Asks" (26 : Nat) ({ cls := "WhoIsThere$Asks", name := "has", desc := "(I)Z" } : Jvm.MethodName)) ∈ xa_G := List.mem_filter.mpr ⟨List.mem_append_right _ (xa_t3 67 rfl), rfl⟩
set_option maxRecDepth 20000 in
theorem tb548 : (Jvm.Cond.methodLink "WhoIsThere" (306 : Nat) ({ cls := "WhoIsThere", name := "knownTo", desc := "(LWhoIsThere$Host;I)I" } : Jvm.MethodName)) ∈ xa_G := List.mem_filter.mpr ⟨List.mem_append_right _ (xa_t3 68 rfl), rfl⟩
set_option maxRecDepth 20000 in
theorem tb550 : (Jvm.Cond.instanceMethod ({ cls := "WhoIsThere", name := "knownTo", desc := "(LWhoIsThere$Host;I)I" } : Jvm.MethodName)) ∈ xa_G := List.mem_filter.mpr ⟨List.mem_append_right _ (xa_t3 70 rfl), rfl⟩
set_option maxRecDepth 20000 in
theorem tb551 : (Jvm.Cond.code ({ cls := "WhoIsThere", name := "knownTo", desc := "(LWhoIsThere$Host;I)I" } : Jvm.MethodName) prog_1_method_61_code (5 : Nat) (Option.some FieldType.int)) ∈ xa_G := List.mem_filter.mpr ⟨List.mem_append_right _ (xa_t3 71 rfl), rfl⟩
set_option maxRecDepth 20000 in
theorem tb552 : (Jvm.Cond.methodLink "WhoIsThere" (437 : Nat) ({ cls := "WhoIsThere$Store", name := "isFresh", desc := "(II)Z" } : Jvm.MethodName)) ∈ xa_G := List.mem_filter.mpr ⟨List.mem_append_right _ (xa_t3 72 rfl), rfl⟩
set_option maxRecDepth 20000 in
theorem tb553 : (Jvm.Cond.instanceMethod ({ cls := "WhoIsThere$Store", name := "isFresh", desc := "(II)Z" } : Jvm.MethodName)) ∈ xa_G := List.mem_filter.mpr ⟨List.mem_append_right _ (xa_t3 73 rfl), rfl⟩
set_option maxRecDepth 20000 in
theorem tb554 : (Jvm.Cond.selects "WhoIsThere$Store" ({ cls := "WhoIsThere$Store", name := "isFresh", desc := "(II)Z" } : Jvm.MethodName) ({ cls := "WhoIsThere$Store", name := "isFresh", desc := "(II)Z" } : Jvm.MethodName)) ∈ xa_G := List.mem_filter.mpr ⟨List.mem_append_right _ (xa_t3 74 rfl), rfl⟩
set_option maxRecDepth 20000 in
theorem tb555 : (Jvm.Cond.code ({ cls := "WhoIsThere$Store", name := "isFresh", desc := "(II)Z" } : Jvm.MethodName) prog_8_method_5_code (3 : Nat) (Option.some FieldType.boolean)) ∈ xa_G := List.mem_filter.mpr ⟨List.mem_append_right _ (xa_t3 75 rfl), rfl⟩
set_option maxRecDepth 20000 in
theorem tb557 : (Jvm.Cond.methodLink "WhoIsThere" (310 : Nat) ({ cls := "WhoIsThere$Letter", name := "addAsk", desc := "(IIII)V" } : Jvm.MethodName)) ∈ xa_G := List.mem_filter.mpr ⟨List.mem_append_right _ (xa_t3 77 rfl), rfl⟩
set_option maxRecDepth 20000 in
theorem tb558 : (Jvm.Cond.instanceMethod ({ cls := "WhoIsThere$Letter", name := "addAsk", desc := "(IIII)V" } : Jvm.MethodName)) ∈ xa_G := List.mem_filter.mpr ⟨List.mem_append_right _ (xa_t3 78 rfl), rfl⟩
set_option maxRecDepth 20000 in
theorem tb559 : (Jvm.Cond.selects "WhoIsThere$Letter" ({ cls := "WhoIsThere$Letter", name := "addAsk", desc := "(IIII)V" } : Jvm.MethodName) ({ cls := "WhoIsThere$Letter", name := "addAsk", desc := "(IIII)V" } : Jvm.MethodName)) ∈ xa_G := List.mem_filter.mpr ⟨List.mem_append_right _ (xa_t3 79 rfl), rfl⟩
set_option maxRecDepth 20000 in
theorem tb560 : (Jvm.Cond.code ({ cls := "WhoIsThere$Letter", name := "addAsk", desc := "(IIII)V" } : Jvm.MethodName) prog_6_method_9_code (5 : Nat) (Option.none : Option FieldType)) ∈ xa_G := List.mem_filter.mpr ⟨List.mem_append_right _ (xa_t3 80 rfl), rfl⟩
set_option maxRecDepth 20000 in
theorem tb561 : (Jvm.Cond.methodLink "WhoIsThere" (316 : Nat) ({ cls := "WhoIsThere$Asks", name := "remove", desc := "(I)V" } : Jvm.MethodName)) ∈ xa_G := List.mem_filter.mpr ⟨List.mem_append_right _ (xa_t3 81 rfl), rfl⟩
set_option maxRecDepth 20000 in
theorem tb562 : (Jvm.Cond.instanceMethod ({ cls := "WhoIsThere$Asks", name := "remove", desc := "(I)V" } : Jvm.MethodName)) ∈ xa_G := List.mem_filter.mpr ⟨List.mem_append_right _ (xa_t3 82 rfl), rfl⟩
set_option maxRecDepth 20000 in
theorem tb563 : (Jvm.Cond.selects "WhoIsThere$Asks" ({ cls := "WhoIsThere$Asks", name := "remove", desc := "(I)V" } : Jvm.MethodName) ({ cls := "WhoIsThere$Asks", name := "remove", desc := "(I)V" } : Jvm.MethodName)) ∈ xa_G := List.mem_filter.mpr ⟨List.mem_append_right _ (xa_t3 83 rfl), rfl⟩
set_option maxRecDepth 20000 in
theorem tb564 : (Jvm.Cond.code ({ cls := "WhoIsThere$Asks", name := "remove", desc := "(I)V" } : Jvm.MethodName) prog_3_method_7_code (2 : Nat) (Option.none : Option FieldType)) ∈ xa_G := List.mem_filter.mpr ⟨List.mem_append_right _ (xa_t3 84 rfl), rfl⟩
set_option maxRecDepth 20000 in
theorem tb565 : (Jvm.Cond.methodLink "WhoIsThere" (295 : Nat) ({ cls := "WhoIsThere", name := "writeClaims", desc := "(LWhoIsThere$Host;)V" } : Jvm.MethodName)) ∈ xa_G := List.mem_filter.mpr ⟨List.mem_append_right _ (xa_t3 85 rfl), rfl⟩
set_option maxRecDepth 20000 in
theorem tb567 : (Jvm.Cond.instanceMethod ({ cls := "WhoIsThere", name := "writeClaims", desc := "(LWhoIsThere$Host;)V" } : Jvm.MethodName)) ∈ xa_G := List.mem_filter.mpr ⟨List.mem_append_right _ (xa_t3 87 rfl), rfl⟩
set_option maxRecDepth 20000 in
theorem tb568 : (Jvm.Cond.code ({ cls := "WhoIsThere", name := "writeClaims", desc := "(LWhoIsThere$Host;)V" } : Jvm.MethodName) prog_1_method_48_code (4 : Nat) (Option.none : Option FieldType)) ∈ xa_G := List.mem_filter.mpr ⟨List.mem_append_right _ (xa_t3 88 rfl), rfl⟩
set_option maxRecDepth 20000 in
theorem tb569 : (Jvm.Cond.methodLink "WhoIsThere" (319 : Nat) ({ cls := "WhoIsThere$Letter", name := "addClaim", desc := "(III)V" } : Jvm.MethodName)) ∈ xa_G := List.mem_filter.mpr ⟨List.mem_append_right _ (xa_t3 89 rfl), rfl⟩
set_option maxRecDepth 20000 in
theorem tb570 : (Jvm.Cond.instanceMethod ({ cls := "WhoIsThere$Letter", name := "addClaim", desc := "(III)V" } : Jvm.MethodName)) ∈ xa_G := List.mem_filter.mpr ⟨List.mem_append_right _ (xa_t3 90 rfl), rfl⟩
set_option maxRecDepth 20000 in
theorem tb571 : (Jvm.Cond.selects "WhoIsThere$Letter" ({ cls := "WhoIsThere$Letter", name := "addClaim", desc := "(III)V" } : Jvm.MethodName) ({ cls := "WhoIsThere$Letter", name := "addClaim", desc := "(III)V" } : Jvm.MethodName)) ∈ xa_G := List.mem_filter.mpr ⟨List.mem_append_right _ (xa_t3 91 rfl), rfl⟩
set_option maxRecDepth 20000 in
theorem tb572 : (Jvm.Cond.code ({ cls := "WhoIsThere$Letter", name := "addClaim", desc := "(III)V" } : Jvm.MethodName) prog_6_method_10_code (4 : Nat) (Option.none : Option FieldType)) ∈ xa_G := List.mem_filter.mpr ⟨List.mem_append_right _ (xa_t3 92 rfl), rfl⟩
set_option maxRecDepth 20000 in
theorem tb573 : (Jvm.Cond.methodLink "WhoIsThere" (298 : Nat) ({ cls := "WhoIsThere", name := "writeTellings", desc := "(LWhoIsThere$Host;)V" } : Jvm.MethodName)) ∈ xa_G := List.mem_filter.mpr ⟨List.mem_append_right _ (xa_t3 93 rfl), rfl⟩
set_option maxRecDepth 20000 in
theorem tb575 : (Jvm.Cond.instanceMethod ({ cls := "WhoIsThere", name := "writeTellings", desc := "(LWhoIsThere$Host;)V" } : Jvm.MethodName)) ∈ xa_G := List.mem_filter.mpr ⟨List.mem_append_right _ (xa_t3 95 rfl), rfl⟩
set_option maxRecDepth 20000 in
theorem tb576 : (Jvm.Cond.code ({ cls := "WhoIsThere", name := "writeTellings", desc := "(LWhoIsThere$Host;)V" } : Jvm.MethodName) prog_1_method_50_code (5 : Nat) (Option.none : Option FieldType)) ∈ xa_G := List.mem_filter.mpr ⟨List.mem_append_right _ (xa_t3 96 rfl), rfl⟩
set_option maxRecDepth 20000 in
theorem tb577 : (Jvm.Cond.methodLink "WhoIsThere" (325 : Nat) ({ cls := "WhoIsThere$Answers", name := "isDue", desc := "(II)Z" } : Jvm.MethodName)) ∈ xa_G := List.mem_filter.mpr ⟨List.mem_append_right _ (xa_t3 97 rfl), rfl⟩
set_option maxRecDepth 20000 in
theorem tb578 : (Jvm.Cond.instanceMethod ({ cls := "WhoIsThere$Answers", name := "isDue", desc := "(II)Z" } : Jvm.MethodName)) ∈ xa_G := List.mem_filter.mpr ⟨List.mem_append_right _ (xa_t3 98 rfl), rfl⟩
set_option maxRecDepth 20000 in
theorem tb579 : (Jvm.Cond.selects "WhoIsThere$Answers" ({ cls := "WhoIsThere$Answers", name := "isDue", desc := "(II)Z" } : Jvm.MethodName) ({ cls := "WhoIsThere$Answers", name := "isDue", desc := "(II)Z" } : Jvm.MethodName)) ∈ xa_G := List.mem_filter.mpr ⟨List.mem_append_right _ (xa_t3 99 rfl), rfl⟩
set_option maxRecDepth 20000 in
theorem tb580 : (Jvm.Cond.code ({ cls := "WhoIsThere$Answers", name := "isDue", desc := "(II)Z" } : Jvm.MethodName) prog_2_method_2_code (3 : Nat) (Option.some FieldType.boolean)) ∈ xa_G := List.mem_filter.mpr ⟨List.mem_append_right _ (xa_t3 100 rfl), rfl⟩
set_option maxRecDepth 20000 in
theorem tb582 : (Jvm.Cond.methodLink "WhoIsThere" (326 : Nat) ({ cls := "WhoIsThere", name := "writeTelling", desc := "(LWhoIsThere$Host;LWhoIsThere$Service;Z)V" } : Jvm.MethodName)) ∈ xa_G := List.mem_filter.mpr ⟨List.mem_append_right _ (xa_t3 102 rfl), rfl⟩
set_option maxRecDepth 20000 in
theorem tb584 : (Jvm.Cond.instanceMethod ({ cls := "WhoIsThere", name := "writeTelling", desc := "(LWhoIsThere$Host;LWhoIsThere$Service;Z)V" } : Jvm.MethodName)) ∈ xa_G := List.mem_filter.mpr ⟨List.mem_append_right _ (xa_t3 104 rfl), rfl⟩
set_option maxRecDepth 20000 in
theorem tb585 : (Jvm.Cond.code ({ cls := "WhoIsThere", name := "writeTelling", desc := "(LWhoIsThere$Host;LWhoIsThere$Service;Z)V" } : Jvm.MethodName) prog_1_method_51_code (6 : Nat) (Option.none : Option FieldType)) ∈ xa_G := List.mem_filter.mpr ⟨List.mem_append_right _ (xa_t3 105 rfl), rfl⟩
set_option maxRecDepth 20000 in
theorem tb586 : (Jvm.Cond.methodLink "WhoIsThere" (331 : Nat) ({ cls := "WhoIsThere", name := "speaksFor", desc := "(LWhoIsThere$Host;LWhoIsThere$Service;)Z" } : Jvm.MethodName)) ∈ xa_G := List.mem_filter.mpr ⟨List.mem_append_right _ (xa_t3 106 rfl), rfl⟩
set_option maxRecDepth 20000 in
theorem tb588 : (Jvm.Cond.instanceMethod ({ cls := "WhoIsThere", name := "speaksFor", desc := "(LWhoIsThere$Host;LWhoIsThere$Service;)Z" } : Jvm.MethodName)) ∈ xa_G := List.mem_filter.mpr ⟨List.mem_append_right _ (xa_t3 108 rfl), rfl⟩
set_option maxRecDepth 20000 in
theorem tb589 : (Jvm.Cond.code ({ cls := "WhoIsThere", name := "speaksFor", desc := "(LWhoIsThere$Host;LWhoIsThere$Service;)Z" } : Jvm.MethodName) prog_1_method_43_code (3 : Nat) (Option.some FieldType.boolean)) ∈ xa_G := List.mem_filter.mpr ⟨List.mem_append_right _ (xa_t3 109 rfl), rfl⟩
set_option maxRecDepth 20000 in
theorem tb590 : (Jvm.Cond.methodLink "WhoIsThere" (337 : Nat) ({ cls := "WhoIsThere$Letter", name := "addTelling", desc := "(IIIII)V" } : Jvm.MethodName)) ∈ xa_G := List.mem_filter.mpr ⟨List.mem_append_right _ (xa_t3 110 rfl), rfl⟩
set_option maxRecDepth 20000 in
theorem tb591 : (Jvm.Cond.instanceMethod ({ cls := "WhoIsThere$Letter", name := "addTelling", desc := "(IIIII)V" } : Jvm.MethodName)) ∈ xa_G := List.mem_filter.mpr ⟨List.mem_append_right _ (xa_t3 111 rfl), rfl⟩
set_option maxRecDepth 20000 in
theorem tb592 : (Jvm.Cond.selects "WhoIsThere$Letter" ({ cls := "WhoIsThere$Letter", name := "addTelling", desc := "(IIIII)V" } : Jvm.MethodName) ({ cls := "WhoIsThere$Letter", name := "addTelling", desc := "(IIIII)V" } : Jvm.MethodName)) ∈ xa_G := List.mem_filter.mpr ⟨List.mem_append_right _ (xa_t3 112 rfl), rfl⟩
set_option maxRecDepth 20000 in
theorem tb593 : (Jvm.Cond.code ({ cls := "WhoIsThere$Letter", name := "addTelling", desc := "(IIIII)V" } : Jvm.MethodName) prog_6_method_12_code (6 : Nat) (Option.none : Option FieldType)) ∈ xa_G := List.mem_filter.mpr ⟨List.mem_append_right _ (xa_t3 113 rfl), rfl⟩
set_option maxRecDepth 20000 in
theorem tb594 : (Jvm.Cond.methodLink "WhoIsThere" (191 : Nat) ({ cls := "WhoIsThere$Store", name := "has", desc := "(I)Z" } : Jvm.MethodName)) ∈ xa_G := List.mem_filter.mpr ⟨List.mem_append_right _ (xa_t3 114 rfl), rfl⟩
set_option maxRecDepth 20000 in
theorem tb595 : (Jvm.Cond.instanceMethod ({ cls := "WhoIsThere$Store", name := "has", desc := "(I)Z" } : Jvm.MethodName)) ∈ xa_G := List.mem_filter.mpr ⟨List.mem_append_right _ (xa_t3 115 rfl), rfl⟩
set_option maxRecDepth 20000 in
theorem tb596 : (Jvm.Cond.selects "WhoIsThere$Store" ({ cls := "WhoIsThere$Store", name := "has", desc := "(I)Z" } : Jvm.MethodName) ({ cls := "WhoIsThere$Store", name := "has", desc := "(I)Z" } : Jvm.MethodName)) ∈ xa_G := List.mem_filter.mpr ⟨List.mem_append_right _ (xa_t3 116 rfl), rfl⟩
set_option maxRecDepth 20000 in
theorem tb597 : (Jvm.Cond.code ({ cls := "WhoIsThere$Store", name := "has", desc := "(I)Z" } : Jvm.MethodName) prog_8_method_2_code (2 : Nat) (Option.some FieldType.boolean)) ∈ xa_G := List.mem_filter.mpr ⟨List.mem_append_right _ (xa_t3 117 rfl), rfl⟩
set_option maxRecDepth 20000 in
theorem tb598 : (Jvm.Cond.methodLink "WhoIsThere" (194 : Nat) ({ cls := "WhoIsThere$Store", name := "left", desc := "(II)I" } : Jvm.MethodName)) ∈ xa_G := List.mem_filter.mpr ⟨List.mem_append_right _ (xa_t3 118 rfl), rfl⟩
set_option maxRecDepth 20000 in
theorem tb599 : (Jvm.Cond.instanceMethod ({ cls := "WhoIsThere$Store", name := "left", desc := "(II)I" } : Jvm.MethodName)) ∈ xa_G := List.mem_filter.mpr ⟨List.mem_append_right _ (xa_t3 119 rfl), rfl⟩
set_option maxRecDepth 20000 in
theorem tb600 : (Jvm.Cond.selects "WhoIsThere$Store" ({ cls := "WhoIsThere$Store", name := "left", desc := "(II)I" } : Jvm.MethodName) ({ cls := "WhoIsThere$Store", name := "left", desc := "(II)I" } : Jvm.MethodName)) ∈ xa_G := List.mem_filter.mpr ⟨List.mem_append_right _ (xa_t3 120 rfl), rfl⟩
set_option maxRecDepth 20000 in
theorem tb601 : (Jvm.Cond.code ({ cls := "WhoIsThere$Store", name := "left", desc := "(II)I" } : Jvm.MethodName) prog_8_method_4_code (3 : Nat) (Option.some FieldType.int)) ∈ xa_G := List.mem_filter.mpr ⟨List.mem_append_right _ (xa_t3 121 rfl), rfl⟩
set_option maxRecDepth 20000 in
theorem tb602 : (Jvm.Cond.methodLink "WhoIsThere" (330 : Nat) ({ cls := "WhoIsThere$Answers", name := "remove", desc := "(I)V" } : Jvm.MethodName)) ∈ xa_G := List.mem_filter.mpr ⟨List.mem_append_right _ (xa_t3 122 rfl), rfl⟩
set_option maxRecDepth 20000 in
theorem tb603 : (Jvm.Cond.instanceMethod ({ cls := "WhoIsThere$Answers", name := "remove", desc := "(I)V" } : Jvm.MethodName)) ∈ xa_G := List.mem_filter.mpr ⟨List.mem_append_right _ (xa_t3 123 rfl), rfl⟩
set_option maxRecDepth 20000 in
theorem tb604 : (Jvm.Cond.selects "WhoIsThere$Answers" ({ cls := "WhoIsThere$Answers", name := "remove", desc := "(I)V" } : Jvm.MethodName) ({ cls := "WhoIsThere$Answers", name := "remove", desc := "(I)V" } : Jvm.MethodName)) ∈ xa_G := List.mem_filter.mpr ⟨List.mem_append_right _ (xa_t3 124 rfl), rfl⟩
set_option maxRecDepth 20000 in
theorem tb605 : (Jvm.Cond.code ({ cls := "WhoIsThere$Answers", name := "remove", desc := "(I)V" } : Jvm.MethodName) prog_2_method_5_code (2 : Nat) (Option.none : Option FieldType)) ∈ xa_G := List.mem_filter.mpr ⟨List.mem_append_right _ (xa_t3 125 rfl), rfl⟩
set_option maxRecDepth 20000 in
theorem tb606 : (Jvm.Cond.methodLink "WhoIsThere" (174 : Nat) ({ cls := "WhoIsThere", name := "hearLetters", desc := "()V" } : Jvm.MethodName)) ∈ xa_G := List.mem_filter.mpr ⟨List.mem_append_right _ (xa_t3 126 rfl), rfl⟩
set_option maxRecDepth 20000 in
theorem tb608 : (Jvm.Cond.instanceMethod ({ cls := "WhoIsThere", name := "hearLetters", desc := "()V" } : Jvm.MethodName)) ∈ xa_G := List.mem_filter.mpr ⟨List.mem_append_right _ (xa_t3 128 rfl), rfl⟩
set_option maxRecDepth 20000 in
theorem tb609 : (Jvm.Cond.code ({ cls := "WhoIsThere", name := "hearLetters", desc := "()V" } : Jvm.MethodName) prog_1_method_54_code (3 : Nat) (Option.none : Option FieldType)) ∈ xa_G := List.mem_filter.mpr ⟨List.mem_append_right _ (xa_t3 129 rfl), rfl⟩
set_option maxRecDepth 20000 in
theorem tb610 : (Jvm.Cond.methodLink "WhoIsThere" (349 : Nat) ({ cls := "WhoIsThere", name := "sendOut", desc := "(LWhoIsThere$Host;LWhoIsThere$Letter;)V" } : Jvm.MethodName)) ∈ xa_G := List.mem_filter.mpr ⟨List.mem_append_right _ (xa_t3 130 rfl), rfl⟩
set_option maxRecDepth 20000 in
theorem tb612 : (Jvm.Cond.instanceMethod ({ cls := "WhoIsThere", name := "sendOut", desc := "(LWhoIsThere$Host;LWhoIsThere$Letter;)V" } : Jvm.MethodName)) ∈ xa_G := List.mem_filter.mpr ⟨List.mem_append_right _ (xa_t3 132 rfl), rfl⟩
set_option maxRecDepth 20000 in
theorem tb613 : (Jvm.Cond.code ({ cls := "WhoIsThere", name := "sendOut", desc := "(LWhoIsThere$Host;LWhoIsThere$Letter;)V" } : Jvm.MethodName) prog_1_method_55_code (5 : Nat) (Option.none : Option FieldType)) ∈ xa_G := List.mem_filter.mpr ⟨List.mem_append_right _ (xa_t3 133 rfl), rfl⟩
set_option maxRecDepth 20000 in
theorem tb614 : (Jvm.Cond.methodLink "WhoIsThere" (353 : Nat) ({ cls := "WhoIsThere$Host", name := "isOn", desc := "(I)Z" } : Jvm.MethodName)) ∈ xa_G := List.mem_filter.mpr ⟨List.mem_append_right _ (xa_t3 134 rfl), rfl⟩
set_option maxRecDepth 20000 in
theorem tb615 : (Jvm.Cond.instanceMethod ({ cls := "WhoIsThere$Host", name := "isOn", desc := "(I)Z" } : Jvm.MethodName)) ∈ xa_G := List.mem_filter.mpr ⟨List.mem_append_right _ (xa_t3 135 rfl), rfl⟩
set_option maxRecDepth 20000 in
theorem tb616 : (Jvm.Cond.selects "WhoIsThere$Host" ({ cls := "WhoIsThere$Host", name := "isOn", desc := "(I)Z" } : Jvm.MethodName) ({ cls := "WhoIsThere$Host", name := "isOn", desc := "(I)Z" } : Jvm.MethodName)) ∈ xa_G := List.mem_filter.mpr ⟨List.mem_append_right _ (xa_t3 136 rfl), rfl⟩
set_option maxRecDepth 20000 in
theorem tb617 : (Jvm.Cond.code ({ cls := "WhoIsThere$Host", name := "isOn", desc := "(I)Z" } : Jvm.MethodName) prog_5_method_3_code (2 : Nat) (Option.some FieldType.boolean)) ∈ xa_G := List.mem_filter.mpr ⟨List.mem_append_right _ (xa_t3 137 rfl), rfl⟩
set_option maxRecDepth 20000 in
theorem tb618 : (Jvm.Cond.methodLink "WhoIsThere" (356 : Nat) ({ cls := "WhoIsThere", name := "takeUp", desc := "(LWhoIsThere$Host;LWhoIsThere$Bridge;LWhoIsThere$Letter;)V" } : Jvm.MethodName)) ∈ xa_G := List.mem_filter.mpr ⟨List.mem_append_right _ (xa_t3 138 rfl), rfl⟩
set_option maxRecDepth 20000 in
theorem tb620 : (Jvm.Cond.instanceMethod ({ cls := "WhoIsThere", name := "takeUp", desc := "(LWhoIsThere$Host;LWhoIsThere$Bridge;LWhoIsThere$Letter;)V" } : Jvm.MethodName)) ∈ xa_G := List.mem_filter.mpr ⟨List.mem_append_right _ (xa_t3 140 rfl), rfl⟩
set_option maxRecDepth 20000 in
theorem tb621 : (Jvm.Cond.code ({ cls := "WhoIsThere", name := "takeUp", desc := "(LWhoIsThere$Host;LWhoIsThere$Bridge;LWhoIsThere$Letter;)V" } : Jvm.MethodName) prog_1_method_56_code (10 : Nat) (Option.none : Option FieldType)) ∈ xa_G := List.mem_filter.mpr ⟨List.mem_append_right _ (xa_t3 141 rfl), rfl⟩
set_option maxRecDepth 20000 in
theorem tb622 : (Jvm.Cond.methodLink "WhoIsThere" (364 : Nat) ({ cls := "WhoIsThere$Letter", name := "size", desc := "()I" } : Jvm.MethodName)) ∈ xa_G := List.mem_filter.mpr ⟨List.mem_append_right _ (xa_t3 142 rfl), rfl⟩
set_option maxRecDepth 20000 in
theorem tb623 : (Jvm.Cond.instanceMethod ({ cls := "WhoIsThere$Letter", name := "size", desc := "()I" } : Jvm.MethodName)) ∈ xa_G := List.mem_filter.mpr ⟨List.mem_append_right _ (xa_t3 143 rfl), rfl⟩
set_option maxRecDepth 20000 in
theorem tb624 : (Jvm.Cond.selects "WhoIsThere$Letter" ({ cls := "WhoIsThere$Letter", name := "size", desc := "()I" } : Jvm.MethodName) ({ cls := "WhoIsThere$Letter", name := "size", desc := "()I" } : Jvm.MethodName)) ∈ xa_G := List.mem_filter.mpr ⟨List.mem_append_right _ (xa_t3 144 rfl), rfl⟩
set_option maxRecDepth 20000 in
theorem tb625 : (Jvm.Cond.code ({ cls := "WhoIsThere$Letter", name := "size", desc := "()I" } : Jvm.MethodName) prog_6_method_3_code (1 : Nat) (Option.some FieldType.int)) ∈ xa_G := List.mem_filter.mpr ⟨List.mem_append_right _ (xa_t3 145 rfl), rfl⟩
set_option maxRecDepth 20000 in
theorem tb626 : (Jvm.Cond.methodLink "WhoIsThere$Letter" (55 : Nat) ({ cls := "java/lang/Integer", name := "bitCount", desc := "(I)I" } : Jvm.MethodName)) ∈ xa_G := List.mem_filter.mpr ⟨List.mem_append_right _ (xa_t3 146 rfl), rfl⟩
set_option maxRecDepth 20000 in
theorem tb627 : (Jvm.Cond.static ({ cls := "java/lang/Integer", name := "bitCount", desc := "(I)I" } : Jvm.MethodName)) ∈ xa_G := List.mem_filter.mpr ⟨List.mem_append_right _ (xa_t3 147 rfl), rfl⟩
set_option maxRecDepth 20000 in
theorem tb628 : (Jvm.Cond.code ({ cls := "java/lang/Integer", name := "bitCount", desc := "(I)I" } : Jvm.MethodName) prog_11_method_49_code (1 : Nat) (Option.some FieldType.int)) ∈ xa_G := List.mem_filter.mpr ⟨List.mem_append_right _ (xa_t3 148 rfl), rfl⟩
set_option maxRecDepth 20000 in
theorem tb629 : (Jvm.Cond.constant "java/lang/Integer" (265 : Nat) (1431655765 : Int32)) ∈ xa_G := List.mem_filter.mpr ⟨List.mem_append_right _ (xa_t3 149 rfl), rfl⟩
set_option maxRecDepth 20000 in
theorem tb630 : (Jvm.Cond.constant "java/lang/Integer" (266 : Nat) (858993459 : Int32)) ∈ xa_G := List.mem_filter.mpr ⟨List.mem_append_right _ (xa_t3 150 rfl), rfl⟩
set_option maxRecDepth 20000 in
theorem tb631 : (Jvm.Cond.constant "java/lang/Integer" (267 : Nat) (252645135 : Int32)) ∈ xa_G := List.mem_filter.mpr ⟨List.mem_append_right _ (xa_t3 151 rfl), rfl⟩
set_option maxRecDepth 20000 in
theorem tb632 : (Jvm.Cond.methodLink "WhoIsThere" (374 : Nat) ({ cls := "WhoIsThere$Bridge", name := "carries", desc := "(I)Z" } : Jvm.MethodName)) ∈ xa_G := List.mem_filter.mpr ⟨List.mem_append_right _ (xa_t3 152 rfl), rfl⟩
set_option maxRecDepth 20000 in
theorem tb633 : (Jvm.Cond.instanceMethod ({ cls := "WhoIsThere$Bridge", name := "carries", desc := "(I)Z" } : Jvm.MethodName)) ∈ xa_G := List.mem_filter.mpr ⟨List.mem_append_right _ (xa_t3 153 rfl), rfl⟩
set_option maxRecDepth 20000 in
theorem tb634 : (Jvm.Cond.selects "WhoIsThere$Bridge" ({ cls := "WhoIsThere$Bridge", name := "carries", desc := "(I)Z" } : Jvm.MethodName) ({ cls := "WhoIsThere$Bridge", name := "carries", desc := "(I)Z" } : Jvm.MethodName)) ∈ xa_G := List.mem_filter.mpr ⟨List.mem_append_right _ (xa_t3 154 rfl), rfl⟩
set_option maxRecDepth 20000 in
theorem tb635 : (Jvm.Cond.code ({ cls := "WhoIsThere$Bridge", name := "carries", desc := "(I)Z" } : Jvm.MethodName) prog_4_method_2_code (2 : Nat) (Option.some FieldType.boolean)) ∈ xa_G := List.mem_filter.mpr ⟨List.mem_append_right _ (xa_t3 155 rfl), rfl⟩
set_option maxRecDepth 20000 in
theorem tb637 : (Jvm.Cond.methodLink "WhoIsThere" (377 : Nat) ({ cls := "WhoIsThere$Letter", name := "takeAsk", desc := "(LWhoIsThere$Letter;II)V" } : Jvm.MethodName)) ∈ xa_G := List.mem_filter.mpr ⟨List.mem_append_right _ (xa_t3 157 rfl), rfl⟩
set_option maxRecDepth 20000 in
theorem tb638 : (Jvm.Cond.instanceMethod ({ cls := "WhoIsThere$Letter", name := "takeAsk", desc := "(LWhoIsThere$Letter;II)V" } : Jvm.MethodName)) ∈ xa_G := List.mem_filter.mpr ⟨List.mem_append_right _ (xa_t3 158 rfl), rfl⟩
set_option maxRecDepth 20000 in
theorem tb639 : (Jvm.Cond.selects "WhoIsThere$Letter" ({ cls := "WhoIsThere$Letter", name := "takeAsk", desc := "(LWhoIsThere$Letter;II)V" } : Jvm.MethodName) ({ cls := "WhoIsThere$Letter", name := "takeAsk", desc := "(LWhoIsThere$Letter;II)V" } : Jvm.MethodName)) ∈ xa_G := List.mem_filter.mpr ⟨List.mem_append_right _ (xa_t3 159 rfl), rfl⟩
set_option maxRecDepth 20000 in
theorem tb640 : (Jvm.Cond.code ({ cls := "WhoIsThere$Letter", name := "takeAsk", desc := "(LWhoIsThere$Letter;II)V" } : Jvm.MethodName) prog_6_method_13_code (5 : Nat) (Option.none : Option FieldType)) ∈ xa_G := List.mem_filter.mpr ⟨List.mem_append_right _ (xa_t3 160 rfl), rfl⟩
set_option maxRecDepth 20000 in
theorem tb641 : (Jvm.Cond.methodLink "WhoIsThere$Letter" (68 : Nat) ({ cls := "WhoIsThere$Letter", name := "hasAsk", desc := "(I)Z" } : Jvm.MethodName)) ∈ xa_G := List.mem_filter.mpr ⟨List.mem_append_right _ (xa_t3 161 rfl), rfl⟩
set_option maxRecDepth 20000 in
theorem tb642 : (Jvm.Cond.instanceMethod ({ cls := "WhoIsThere$Letter", name := "hasAsk", desc := "(I)Z" } : Jvm.MethodName)) ∈ xa_G := List.mem_filter.mpr ⟨List.mem_append_right _ (xa_t3 162 rfl), rfl⟩
set_option maxRecDepth 20000 in
theorem tb643 : (Jvm.Cond.selects "WhoIsThere$Letter" ({ cls := "WhoIsThere$Letter", name := "hasAsk", desc := "(I)Z" } : Jvm.MethodName) ({ cls := "WhoIsThere$Letter", name := "hasAsk", desc := "(I)Z" } : Jvm.MethodName)) ∈ xa_G := List.mem_filter.mpr ⟨List.mem_append_right _ (xa_t3 163 rfl), rfl⟩
set_option maxRecDepth 20000 in
theorem tb644 : (Jvm.Cond.code ({ cls := "WhoIsThere$Letter", name := "hasAsk", desc := "(I)Z" } : Jvm.MethodName) prog_6_method_5_code (2 : Nat) (Option.some FieldType.boolean)) ∈ xa_G := List.mem_filter.mpr ⟨List.mem_append_right _ (xa_t3 164 rfl), rfl⟩
set_option maxRecDepth 20000 in
theorem tb646 : (Jvm.Cond.methodLink "WhoIsThere$Letter" (72 : Nat) ({ cls := "WhoIsThere$Letter", name := "addAsk", desc := "(IIII)V" } : Jvm.MethodName)) ∈ xa_G := List.mem_filter.mpr ⟨List.mem_append_right _ (xa_t3 166 rfl), rfl⟩
set_option maxRecDepth 20000 in
theorem tb647 : (Jvm.Cond.methodLink "WhoIsThere" (381 : Nat) ({ cls := "WhoIsThere", name := "isIn", desc := "(II)Z" } : Jvm.MethodName)) ∈ xa_G := List.mem_filter.mpr ⟨List.mem_append_right _ (xa_t3 167 rfl), rfl⟩
set_option maxRecDepth 20000 in
theorem tb648 : (Jvm.Cond.methodLink "WhoIsThere" (384 : Nat) ({ cls := "WhoIsThere$Letter", name := "takeClaim", desc := "(LWhoIsThere$Letter;II)V" } : Jvm.MethodName)) ∈ xa_G := List.mem_filter.mpr ⟨List.mem_append_right _ (xa_t3 168 rfl), rfl⟩
set_option maxRecDepth 20000 in
theorem tb649 : (Jvm.Cond.instanceMethod ({ cls := "WhoIsThere$Letter", name := "takeClaim", desc := "(LWhoIsThere$Letter;II)V" } : Jvm.MethodName)) ∈ xa_G := List.mem_filter.mpr ⟨List.mem_append_right _ (xa_t3 169 rfl), rfl⟩
set_option maxRecDepth 20000 in
theorem tb650 : (Jvm.Cond.selects "WhoIsThere$Letter" ({ cls := "WhoIsThere$Letter", name := "takeClaim", desc := "(LWhoIsThere$Letter;II)V" } : Jvm.MethodName) ({ cls := "WhoIsThere$Letter", name := "takeClaim", desc := "(LWhoIsThere$Letter;II)V" } : Jvm.MethodName)) ∈ xa_G := List.mem_filter.mpr ⟨List.mem_append_right _ (xa_t3 170 rfl), rfl⟩
set_option maxRecDepth 20000 in
theorem tb651 : (Jvm.Cond.code ({ cls := "WhoIsThere$Letter", name := "takeClaim", desc := "(LWhoIsThere$Letter;II)V" } : Jvm.MethodName) prog_6_method_14_code (5 : Nat) (Option.none : Option FieldType)) ∈ xa_G := List.mem_filter.mpr ⟨List.mem_append_right _ (xa_t3 171 rfl), rfl⟩
set_option maxRecDepth 20000 in
theorem tb652 : (Jvm.Cond.methodLink "WhoIsThere$Letter" (76 : Nat) ({ cls := "WhoIsThere$Letter", name := "hasClaim", desc := "(I)Z" } : Jvm.MethodName)) ∈ xa_G := List.mem_filter.mpr ⟨List.mem_append_right _ (xa_t3 172 rfl), rfl⟩
set_option maxRecDepth 20000 in
theorem tb653 : (Jvm.Cond.instanceMethod ({ cls := "WhoIsThere$Letter", name := "hasClaim", desc := "(I)Z" } : Jvm.MethodName)) ∈ xa_G := List.mem_filter.mpr ⟨List.mem_append_right _ (xa_t3 173 rfl), rfl⟩
set_option maxRecDepth 20000 in
theorem tb654 : (Jvm.Cond.selects "WhoIsThere$Letter" ({ cls := "WhoIsThere$Letter", name := "hasClaim", desc := "(I)Z" } : Jvm.MethodName) ({ cls := "WhoIsThere$Letter", name := "hasClaim", desc := "(I)Z" } : Jvm.MethodName)) ∈ xa_G := List.mem_filter.mpr ⟨List.mem_append_right _ (xa_t3 174 rfl), rfl⟩
set_option maxRecDepth 20000 in
theorem tb655 : (Jvm.Cond.code ({ cls := "WhoIsThere$Letter", name := "hasClaim", desc := "(I)Z" } : Jvm.MethodName) prog_6_method_6_code (2 : Nat) (Option.some FieldType.boolean)) ∈ xa_G := List.mem_filter.mpr ⟨List.mem_append_right _ (xa_t3 175 rfl), rfl⟩
set_option maxRecDepth 20000 in
theorem tb656 : (Jvm.Cond.methodLink "WhoIsThere$Letter" (79 : Nat) ({ cls := "WhoIsThere$Letter", name := "addClaim", desc := "(III)V" } : Jvm.MethodName)) ∈ xa_G := List.mem_filter.mpr ⟨List.mem_append_right _ (xa_t3 176 rfl), rfl⟩
set_option maxRecDepth 20000 in
theorem tb657 : (Jvm.Cond.methodLink "WhoIsThere" (387 : Nat) ({ cls := "WhoIsThere$Letter", name := "takeBye", desc := "(LWhoIsThere$Letter;II)V" } : Jvm.MethodName)) ∈ xa_G := List.mem_filter.mpr ⟨List.mem_append_right _ (xa_t3 177 rfl), rfl⟩
set_option maxRecDepth 20000 in
theorem tb658 : (Jvm.Cond.instanceMethod ({ cls := "WhoIsThere$Letter", name := "takeBye", desc := "(LWhoIsThere$Letter;II)V" } : Jvm.MethodName)) ∈ xa_G := List.mem_filter.mpr ⟨List.mem_append_right _ (xa_t3 178 rfl), rfl⟩
set_option maxRecDepth 20000 in
theorem tb659 : (Jvm.Cond.selects "WhoIsThere$Letter" ({ cls := "WhoIsThere$Letter", name := "takeBye", desc := "(LWhoIsThere$Letter;II)V" } : Jvm.MethodName) ({ cls := "WhoIsThere$Letter", name := "takeBye", desc := "(LWhoIsThere$Letter;II)V" } : Jvm.MethodName)) ∈ xa_G := List.mem_filter.mpr ⟨List.mem_append_right _ (xa_t3 179 rfl), rfl⟩
set_option maxRecDepth 20000 in
theorem tb660 : (Jvm.Cond.code ({ cls := "WhoIsThere$Letter", name := "takeBye", desc := "(LWhoIsThere$Letter;II)V" } : Jvm.MethodName) prog_6_method_15_code (5 : Nat) (Option.none : Option FieldType)) ∈ xa_G := List.mem_filter.mpr ⟨List.mem_append_right _ (xa_t3 180 rfl), rfl⟩
set_option maxRecDepth 20000 in
theorem tb661 : (Jvm.Cond.methodLink "WhoIsThere$Letter" (83 : Nat) ({ cls := "WhoIsThere$Letter", name := "hasBye", desc := "(I)Z" } : Jvm.MethodName)) ∈ xa_G := List.mem_filter.mpr ⟨List.mem_append_right _ (xa_t3 181 rfl), rfl⟩
set_option maxRecDepth 20000 in
theorem tb662 : (Jvm.Cond.instanceMethod ({ cls := "WhoIsThere$Letter", name := "hasBye", desc := "(I)Z" } : Jvm.MethodName)) ∈ xa_G := List.mem_filter.mpr ⟨List.mem_append_right _ (xa_t3 182 rfl), rfl⟩
set_option maxRecDepth 20000 in
theorem tb663 : (Jvm.Cond.selects "WhoIsThere$Letter" ({ cls := "WhoIsThere$Letter", name := "hasBye", desc := "(I)Z" } : Jvm.MethodName) ({ cls := "WhoIsThere$Letter", name := "hasBye", desc := "(I)Z" } : Jvm.MethodName)) ∈ xa_G := List.mem_filter.mpr ⟨List.mem_append_right _ (xa_t3 183 rfl), rfl⟩
set_option maxRecDepth 20000 in
theorem tb664 : (Jvm.Cond.code ({ cls := "WhoIsThere$Letter", name := "hasBye", desc := "(I)Z" } : Jvm.MethodName) prog_6_method_7_code (2 : Nat) (Option.some FieldType.boolean)) ∈ xa_G := List.mem_filter.mpr ⟨List.mem_append_right _ (xa_t3 184 rfl), rfl⟩
set_option maxRecDepth 20000 in
theorem tb665 : (Jvm.Cond.methodLink "WhoIsThere$Letter" (86 : Nat) ({ cls := "WhoIsThere$Letter", name := "addBye", desc := "(II)V" } : Jvm.MethodName)) ∈ xa_G := List.mem_filter.mpr ⟨List.mem_append_right _ (xa_t3 185 rfl), rfl⟩
set_option maxRecDepth 20000 in
theorem tb666 : (Jvm.Cond.methodLink "WhoIsThere" (390 : Nat) ({ cls := "WhoIsThere$Letter", name := "takeTelling", desc := "(LWhoIsThere$Letter;II)V" } : Jvm.MethodName)) ∈ xa_G := List.mem_filter.mpr ⟨List.mem_append_right _ (xa_t3 186 rfl), rfl⟩
set_option maxRecDepth 20000 in
theorem tb667 : (Jvm.Cond.instanceMethod ({ cls := "WhoIsThere$Letter", name := "takeTelling", desc := "(LWhoIsThere$Letter;II)V" } : Jvm.MethodName)) ∈ xa_G := List.mem_filter.mpr ⟨List.mem_append_right _ (xa_t3 187 rfl), rfl⟩
set_option maxRecDepth 20000 in
theorem tb668 : (Jvm.Cond.selects "WhoIsThere$Letter" ({ cls := "WhoIsThere$Letter", name := "takeTelling", desc := "(LWhoIsThere$Letter;II)V" } : Jvm.MethodName) ({ cls := "WhoIsThere$Letter", name := "takeTelling", desc := "(LWhoIsThere$Letter;II)V" } : Jvm.MethodName)) ∈ xa_G := List.mem_filter.mpr ⟨List.mem_append_right _ (xa_t3 188 rfl), rfl⟩
set_option maxRecDepth 20000 in
theorem tb669 : (Jvm.Cond.code ({ cls := "WhoIsThere$Letter", name := "takeTelling", desc := "(LWhoIsThere$Letter;II)V" } : Jvm.MethodName) prog_6_method_16_code (6 : Nat) (Option.none : Option FieldType)) ∈ xa_G := List.mem_filter.mpr ⟨List.mem_append_right _ (xa_t3 189 rfl), rfl⟩
set_option maxRecDepth 20000 in
theorem tb670 : (Jvm.Cond.methodLink "WhoIsThere$Letter" (90 : Nat) ({ cls := "WhoIsThere$Letter", name := "hasTelling", desc := "(I)Z" } : Jvm.MethodName)) ∈ xa_G := List.mem_filter.mpr ⟨List.mem_append_right _ (xa_t3 190 rfl), rfl⟩
set_option maxRecDepth 20000 in
theorem tb671 : (Jvm.Cond.instanceMethod ({ cls := "WhoIsThere$Letter", name := "hasTelling", desc := "(I)Z" } : Jvm.MethodName)) ∈ xa_G := List.mem_filter.mpr ⟨List.mem_append_right _ (xa_t3 191 rfl), rfl⟩
set_option maxRecDepth 20000 in
theorem tb672 : (Jvm.Cond.selects "WhoIsThere$Letter" ({ cls := "WhoIsThere$Letter", name := "hasTelling", desc := "(I)Z" } : Jvm.MethodName) ({ cls := "WhoIsThere$Letter", name := "hasTelling", desc := "(I)Z" } : Jvm.MethodName)) ∈ xa_G := List.mem_filter.mpr ⟨List.mem_append_right _ (xa_t3 192 rfl), rfl⟩
set_option maxRecDepth 20000 in
theorem tb673 : (Jvm.Cond.code ({ cls := "WhoIsThere$Letter", name := "hasTelling", desc := "(I)Z" } : Jvm.MethodName) prog_6_method_8_code (2 : Nat) (Option.some FieldType.boolean)) ∈ xa_G := List.mem_filter.mpr ⟨List.mem_append_right _ (xa_t3 193 rfl), rfl⟩
set_option maxRecDepth 20000 in
theorem tb674 : (Jvm.Cond.methodLink "WhoIsThere$Letter" (93 : Nat) ({ cls := "WhoIsThere$Letter", name := "addTelling", desc := "(IIIII)V" } : Jvm.MethodName)) ∈ xa_G := List.mem_filter.mpr ⟨List.mem_append_right _ (xa_t3 194 rfl), rfl⟩
set_option maxRecDepth 20000 in
theorem tb675 : (Jvm.Cond.methodLink "WhoIsThere" (360 : Nat) ({ cls := "WhoIsThere", name := "hearLetter", desc := "(LWhoIsThere$Host;LWhoIsThere$Host;LWhoIsThere$Letter;)V" } : Jvm.MethodName)) ∈ xa_G := List.mem_filter.mpr ⟨List.mem_append_right _ (xa_t3 195 rfl), rfl⟩
set_option maxRecDepth 20000 in
theorem tb677 : (Jvm.Cond.instanceMethod ({ cls := "WhoIsThere", name := "hearLetter", desc := "(LWhoIsThere$Host;LWhoIsThere$Host;LWhoIsThere$Letter;)V" } : Jvm.MethodName)) ∈ xa_G := List.mem_filter.mpr ⟨List.mem_append_right _ (xa_t3 197 rfl), rfl⟩
set_option maxRecDepth 20000 in
theorem tb678 : (Jvm.Cond.code ({ cls := "WhoIsThere", name := "hearLetter", desc := "(LWhoIsThere$Host;LWhoIsThere$Host;LWhoIsThere$Letter;)V" } : Jvm.MethodName) prog_1_method_57_code (5 : Nat) (Option.none : Option FieldType)) ∈ xa_G := List.mem_filter.mpr ⟨List.mem_append_right _ (xa_t3 198 rfl), rfl⟩
set_option maxRecDepth 20000 in
theorem tb679 : (Jvm.Cond.methodLink "WhoIsThere" (393 : Nat) ({ cls := "WhoIsThere$Letter", name := "hasAsk", desc := "(I)Z" } : Jvm.MethodName)) ∈ xa_G := List.mem_filter.mpr ⟨List.mem_append_right _ (xa_t3 199 rfl), rfl⟩
set_option maxRecDepth 20000 in
theorem tb680 : (Jvm.Cond.methodLink "WhoIsThere" (396 : Nat) ({ cls := "WhoIsThere", name := "hearAsk", desc := "(LWhoIsThere$Host;LWhoIsThere$Host;LWhoIsThere$Letter;I)V" } : Jvm.MethodName)) ∈ xa_G := List.mem_filter.mpr ⟨List.mem_append_right _ (xa_t3 200 rfl), rfl⟩
set_option maxRecDepth 20000 in
theorem tb682 : (Jvm.Cond.instanceMethod ({ cls := "WhoIsThere", name := "hearAsk", desc := "(LWhoIsThere$Host;LWhoIsThere$Host;LWhoIsThere$Letter;I)V" } : Jvm.MethodName)) ∈ xa_G := List.mem_filter.mpr ⟨List.mem_append_right _ (xa_t3 202 rfl), rfl⟩
set_option maxRecDepth 20000 in
theorem tb683 : (Jvm.Cond.code ({ cls := "WhoIsThere", name := "hearAsk", desc := "(LWhoIsThere$Host;LWhoIsThere$Host;LWhoIsThere$Letter;I)V" } : Jvm.MethodName) prog_1_method_58_code (11 : Nat) (Option.none : Option FieldType)) ∈ xa_G := List.mem_filter.mpr ⟨List.mem_append_right _ (xa_t3 203 rfl), rfl⟩
set_option maxRecDepth 20000 in
theorem tb684 : (Jvm.Cond.methodLink "WhoIsThere" (426 : Nat) ({ cls := "WhoIsThere", name := "leastKeeperOn", desc := "(ILWhoIsThere$Host;)LWhoIsThere$Host;" } : Jvm.MethodName)) ∈ xa_G := List.mem_filter.mpr ⟨List.mem_append_right _ (xa_t3 204 rfl), rfl⟩
set_option maxRecDepth 20000 in
theorem tb686 : (Jvm.Cond.instanceMethod ({ cls := "WhoIsThere", name := "leastKeeperOn", desc := "(ILWhoIsThere$Host;)LWhoIsThere$Host;" } : Jvm.MethodName)) ∈ xa_G := List.mem_filter.mpr ⟨List.mem_append_right _ (xa_t3 206 rfl), rfl⟩
set_option maxRecDepth 20000 in
theorem tb687 : (Jvm.Cond.code ({ cls := "WhoIsThere", name := "leastKeeperOn", desc := "(ILWhoIsThere$Host;)LWhoIsThere$Host;" } : Jvm.MethodName) prog_1_method_60_code (5 : Nat) (Option.some (FieldType.object "WhoIsThere$Host"))) ∈ xa_G := List.mem_filter.mpr ⟨List.mem_append_right _ (xa_t3 207 rfl), rfl⟩
set_option maxRecDepth 20000 in
theorem tb688 : (Jvm.Cond.methodLink "WhoIsThere" (430 : Nat) ({ cls := "WhoIsThere", name := "canAnswer", desc := "(LWhoIsThere$Host;II)Z" } : Jvm.MethodName)) ∈ xa_G := List.mem_filter.mpr ⟨List.mem_append_right _ (xa_t3 208 rfl), rfl⟩
set_option maxRecDepth 20000 in
theorem tb690 : (Jvm.Cond.instanceMethod ({ cls := "WhoIsThere", name := "canAnswer", desc := "(LWhoIsThere$Host;II)Z" } : Jvm.MethodName)) ∈ xa_G := List.mem_filter.mpr ⟨List.mem_append_right _ (xa_t3 210 rfl), rfl⟩
set_option maxRecDepth 20000 in
theorem tb691 : (Jvm.Cond.code ({ cls := "WhoIsThere", name := "canAnswer", desc := "(LWhoIsThere$Host;II)Z" } : Jvm.MethodName) prog_1_method_59_code (5 : Nat) (Option.some FieldType.boolean)) ∈ xa_G := List.mem_filter.mpr ⟨List.mem_append_right _ (xa_t3 211 rfl), rfl⟩
set_option maxRecDepth 20000 in
theorem tb692 : (Jvm.Cond.methodLink "WhoIsThere" (434 : Nat) ({ cls := "WhoIsThere$Answers", name := "comeDue", desc := "(II)V" } : Jvm.MethodName)) ∈ xa_G := List.mem_filter.mpr ⟨List.mem_append_right _ (xa_t3 212 rfl), rfl⟩
set_option maxRecDepth 20000 in
theorem tb693 : (Jvm.Cond.instanceMethod ({ cls := "WhoIsThere$Answers", name := "comeDue", desc := "(II)V" } : Jvm.MethodName)) ∈ xa_G := List.mem_filter.mpr ⟨List.mem_append_right _ (xa_t3 213 rfl), rfl⟩
set_option maxRecDepth 20000 in
theorem tb694 : (Jvm.Cond.selects "WhoIsThere$Answers" ({ cls := "WhoIsThere$Answers", name := "comeDue", desc := "(II)V" } : Jvm.MethodName) ({ cls := "WhoIsThere$Answers", name := "comeDue", desc := "(II)V" } : Jvm.MethodName)) ∈ xa_G := List.mem_filter.mpr ⟨List.mem_append_right _ (xa_t3 214 rfl), rfl⟩
set_option maxRecDepth 20000 in
theorem tb695 : (Jvm.Cond.code ({ cls := "WhoIsThere$Answers", name := "comeDue", desc := "(II)V" } : Jvm.MethodName) prog_2_method_4_code (3 : Nat) (Option.none : Option FieldType)) ∈ xa_G := List.mem_filter.mpr ⟨List.mem_append_right _ (xa_t3 215 rfl), rfl⟩
set_option maxRecDepth 20000 in
theorem tb696 : (Jvm.Cond.methodLink "WhoIsThere" (400 : Nat) ({ cls := "WhoIsThere$Letter", name := "hasClaim", desc := "(I)Z" } : Jvm.MethodName)) ∈ xa_G := List.mem_filter.mpr ⟨List.mem_append_right _ (xa_t3 216 rfl), rfl⟩
set_option maxRecDepth 20000 in
theorem tb697 : (Jvm.Cond.methodLink "WhoIsThere" (406 : Nat) ({ cls := "WhoIsThere", name := "contend", desc := "(LWhoIsThere$Host;LWhoIsThere$Service;IZ)V" } : Jvm.MethodName)) ∈ xa_G := List.mem_filter.mpr ⟨List.mem_append_right _ (xa_t3 217 rfl), rfl⟩
set_option maxRecDepth 20000 in
theorem tb699 : (Jvm.Cond.instanceMethod ({ cls := "WhoIsThere", name := "contend", desc := "(LWhoIsThere$Host;LWhoIsThere$Service;IZ)V" } : Jvm.MethodName)) ∈ xa_G := List.mem_filter.mpr ⟨List.mem_append_right _ (xa_t3 219 rfl), rfl⟩
set_option maxRecDepth 20000 in
theorem tb700 : (Jvm.Cond.code ({ cls := "WhoIsThere", name := "contend", desc := "(LWhoIsThere$Host;LWhoIsThere$Service;IZ)V" } : Jvm.MethodName) prog_1_method_64_code (9 : Nat) (Option.none : Option FieldType)) ∈ xa_G := List.mem_filter.mpr ⟨List.mem_append_right _ (xa_t3 220 rfl), rfl⟩
set_option maxRecDepth 20000 in
theorem tb701 : (Jvm.Cond.methodLink "WhoIsThere" (450 : Nat) ({ cls := "WhoIsThere", name := "isStronger", desc := "(LWhoIsThere$Service;LWhoIsThere$Service;)Z" } : Jvm.MethodName)) ∈ xa_G := List.mem_filter.mpr ⟨List.mem_append_right _ (xa_t3 221 rfl), rfl⟩
set_option maxRecDepth 20000 in
theorem tb703 : (Jvm.Cond.instanceMethod ({ cls := "WhoIsThere", name := "isStronger", desc := "(LWhoIsThere$Service;LWhoIsThere$Service;)Z" } : Jvm.MethodName)) ∈ xa_G := List.mem_filter.mpr ⟨List.mem_append_right _ (xa_t3 223 rfl), rfl⟩
set_option maxRecDepth 20000 in
theorem tb704 : (Jvm.Cond.code ({ cls := "WhoIsThere", name := "isStronger", desc := "(LWhoIsThere$Service;LWhoIsThere$Service;)Z" } : Jvm.MethodName) prog_1_method_44_code (3 : Nat) (Option.some FieldType.boolean)) ∈ xa_G := List.mem_filter.mpr ⟨List.mem_append_right _ (xa_t3 224 rfl), rfl⟩
set_option maxRecDepth 20000 in
theorem tb705 : (Jvm.Cond.methodLink "WhoIsThere" (460 : Nat) ({ cls := "WhoIsThere", name := "giveWay", desc := "(LWhoIsThere$Service;)V" } : Jvm.MethodName)) ∈ xa_G := List.mem_filter.mpr ⟨List.mem_append_right _ (xa_t3 225 rfl), rfl⟩
set_option maxRecDepth 20000 in
theorem tb707 : (Jvm.Cond.instanceMethod ({ cls := "WhoIsThere", name := "giveWay", desc := "(LWhoIsThere$Service;)V" } : Jvm.MethodName)) ∈ xa_G := List.mem_filter.mpr ⟨List.mem_append_right _ (xa_t3 227 rfl), rfl⟩
set_option maxRecDepth 20000 in
theorem tb708 : (Jvm.Cond.code ({ cls := "WhoIsThere", name := "giveWay", desc := "(LWhoIsThere$Service;)V" } : Jvm.MethodName) prog_1_method_65_code (6 : Nat) (Option.none : Option FieldType)) ∈ xa_G := List.mem_filter.mpr ⟨List.mem_append_right _ (xa_t3 228 rfl), rfl⟩
set_option maxRecDepth 20000 in
theorem tb709 : (Jvm.Cond.methodLink "WhoIsThere" (470 : Nat) ({ cls := "WhoIsThere$Service", name := "claimAnew", desc := "(I)V" } : Jvm.MethodName)) ∈ xa_G := List.mem_filter.mpr ⟨List.mem_append_right _ (xa_t3 229 rfl), rfl⟩
set_option maxRecDepth 20000 in
theorem tb710 : (Jvm.Cond.instanceMethod ({ cls := "WhoIsThere$Service", name := "claimAnew", desc := "(I)V" } : Jvm.MethodName)) ∈ xa_G := List.mem_filter.mpr ⟨List.mem_append_right _ (xa_t3 230 rfl), rfl⟩
set_option maxRecDepth 20000 in
theorem tb711 : (Jvm.Cond.selects "WhoIsThere$Service" ({ cls := "WhoIsThere$Service", name := "claimAnew", desc := "(I)V" } : Jvm.MethodName) ({ cls := "WhoIsThere$Service", name := "claimAnew", desc := "(I)V" } : Jvm.MethodName)) ∈ xa_G := List.mem_filter.mpr ⟨List.mem_append_right _ (xa_t3 231 rfl), rfl⟩
set_option maxRecDepth 20000 in
theorem tb712 : (Jvm.Cond.code ({ cls := "WhoIsThere$Service", name := "claimAnew", desc := "(I)V" } : Jvm.MethodName) prog_7_method_4_code (2 : Nat) (Option.none : Option FieldType)) ∈ xa_G := List.mem_filter.mpr ⟨List.mem_append_right _ (xa_t3 232 rfl), rfl⟩
set_option maxRecDepth 20000 in
theorem tb713 : (Jvm.Cond.methodLink "WhoIsThere" (410 : Nat) ({ cls := "WhoIsThere$Store", name := "removeAll", desc := "(I)V" } : Jvm.MethodName)) ∈ xa_G := List.mem_filter.mpr ⟨List.mem_append_right _ (xa_t3 233 rfl), rfl⟩
set_option maxRecDepth 20000 in
theorem tb714 : (Jvm.Cond.instanceMethod ({ cls := "WhoIsThere$Store", name := "removeAll", desc := "(I)V" } : Jvm.MethodName)) ∈ xa_G := List.mem_filter.mpr ⟨List.mem_append_right _ (xa_t3 234 rfl), rfl⟩
set_option maxRecDepth 20000 in
theorem tb715 : (Jvm.Cond.selects "WhoIsThere$Store" ({ cls := "WhoIsThere$Store", name := "removeAll", desc := "(I)V" } : Jvm.MethodName) ({ cls := "WhoIsThere$Store", name := "removeAll", desc := "(I)V" } : Jvm.MethodName)) ∈ xa_G := List.mem_filter.mpr ⟨List.mem_append_right _ (xa_t3 235 rfl), rfl⟩
set_option maxRecDepth 20000 in
theorem tb716 : (Jvm.Cond.code ({ cls := "WhoIsThere$Store", name := "removeAll", desc := "(I)V" } : Jvm.MethodName) prog_8_method_8_code (2 : Nat) (Option.none : Option FieldType)) ∈ xa_G := List.mem_filter.mpr ⟨List.mem_append_right _ (xa_t3 236 rfl), rfl⟩
set_option maxRecDepth 20000 in
theorem tb717 : (Jvm.Cond.methodLink "WhoIsThere" (413 : Nat) ({ cls := "WhoIsThere$Letter", name := "hasTelling", desc := "(I)Z" } : Jvm.MethodName)) ∈ xa_G := List.mem_filter.mpr ⟨List.mem_append_right _ (xa_t3 237 rfl), rfl⟩
set_option maxRecDepth 20000 in
theorem tb718 : (Jvm.Cond.methodLink "WhoIsThere" (416 : Nat) ({ cls := "WhoIsThere", name := "hearTelling", desc := "(LWhoIsThere$Host;LWhoIsThere$Service;LWhoIsThere$Letter;)V" } : Jvm.MethodName)) ∈ xa_G := List.mem_filter.mpr ⟨List.mem_append_right _ (xa_t3 238 rfl), rfl⟩
set_option maxRecDepth 20000 in
theorem tb720 : (Jvm.Cond.instanceMethod ({ cls := "WhoIsThere", name := "hearTelling", desc := "(LWhoIsThere$Host;LWhoIsThere$Service;LWhoIsThere$Letter;)V" } : Jvm.MethodName)) ∈ xa_G := List.mem_filter.mpr ⟨List.mem_append_right _ (xa_t4 0 rfl), rfl⟩
set_option maxRecDepth 20000 in
theorem tb721 : (Jvm.Cond.code ({ cls := "WhoIsThere", name := "hearTelling", desc := "(LWhoIsThere$Host;LWhoIsThere$Service;LWhoIsThere$Letter;)V" } : Jvm.MethodName) prog_1_method_62_code (8 : Nat) (Option.none : Option FieldType)) ∈ xa_G := List.mem_filter.mpr ⟨List.mem_append_right _ (xa_t4 1 rfl), rfl⟩
set_option maxRecDepth 20000 in
theorem tb722 : (Jvm.Cond.methodLink "WhoIsThere" (446 : Nat) ({ cls := "WhoIsThere", name := "otherRecorded", desc := "(LWhoIsThere$Store;LWhoIsThere$Service;I)LWhoIsThere$Service;" } : Jvm.MethodName)) ∈ xa_G := List.mem_filter.mpr ⟨List.mem_append_right _ (xa_t4 2 rfl), rfl⟩
set_option maxRecDepth 20000 in
theorem tb724 : (Jvm.Cond.instanceMethod ({ cls := "WhoIsThere", name := "otherRecorded", desc := "(LWhoIsThere$Store;LWhoIsThere$Service;I)LWhoIsThere$Service;" } : Jvm.MethodName)) ∈ xa_G := List.mem_filter.mpr ⟨List.mem_append_right _ (xa_t4 4 rfl), rfl⟩
set_option maxRecDepth 20000 in
theorem tb725 : (Jvm.Cond.code ({ cls := "WhoIsThere", name := "otherRecorded", desc := "(LWhoIsThere$Store;LWhoIsThere$Service;I)LWhoIsThere$Service;" } : Jvm.MethodName) prog_1_method_63_code (5 : Nat) (Option.some (FieldType.object "WhoIsThere$Service"))) ∈ xa_G := List.mem_filter.mpr ⟨List.mem_append_right _ (xa_t4 5 rfl), rfl⟩
set_option maxRecDepth 20000 in
theorem tb726 : (Jvm.Cond.methodLink "WhoIsThere" (454 : Nat) ({ cls := "WhoIsThere$Store", name := "remove", desc := "(I)V" } : Jvm.MethodName)) ∈ xa_G := List.mem_filter.mpr ⟨List.mem_append_right _ (xa_t4 6 rfl), rfl⟩
set_option maxRecDepth 20000 in
theorem tb727 : (Jvm.Cond.instanceMethod ({ cls := "WhoIsThere$Store", name := "remove", desc := "(I)V" } : Jvm.MethodName)) ∈ xa_G := List.mem_filter.mpr ⟨List.mem_append_right _ (xa_t4 7 rfl), rfl⟩
set_option maxRecDepth 20000 in
theorem tb728 : (Jvm.Cond.selects "WhoIsThere$Store" ({ cls := "WhoIsThere$Store", name := "remove", desc := "(I)V" } : Jvm.MethodName) ({ cls := "WhoIsThere$Store", name := "remove", desc := "(I)V" } : Jvm.MethodName)) ∈ xa_G := List.mem_filter.mpr ⟨List.mem_append_right _ (xa_t4 8 rfl), rfl⟩
set_option maxRecDepth 20000 in
theorem tb729 : (Jvm.Cond.code ({ cls := "WhoIsThere$Store", name := "remove", desc := "(I)V" } : Jvm.MethodName) prog_8_method_7_code (2 : Nat) (Option.none : Option FieldType)) ∈ xa_G := List.mem_filter.mpr ⟨List.mem_append_right _ (xa_t4 9 rfl), rfl⟩
set_option maxRecDepth 20000 in
theorem tb730 : (Jvm.Cond.methodLink "WhoIsThere" (458 : Nat) ({ cls := "WhoIsThere$Store", name := "put", desc := "(IIIII)V" } : Jvm.MethodName)) ∈ xa_G := List.mem_filter.mpr ⟨List.mem_append_right _ (xa_t4 10 rfl), rfl⟩
set_option maxRecDepth 20000 in
theorem tb731 : (Jvm.Cond.instanceMethod ({ cls := "WhoIsThere$Store", name := "put", desc := "(IIIII)V" } : Jvm.MethodName)) ∈ xa_G := List.mem_filter.mpr ⟨List.mem_append_right _ (xa_t4 11 rfl), rfl⟩
set_option maxRecDepth 20000 in
theorem tb732 : (Jvm.Cond.selects "WhoIsThere$Store" ({ cls := "WhoIsThere$Store", name := "put", desc := "(IIIII)V" } : Jvm.MethodName) ({ cls := "WhoIsThere$Store", name := "put", desc := "(IIIII)V" } : Jvm.MethodName)) ∈ xa_G := List.mem_filter.mpr ⟨List.mem_append_right _ (xa_t4 12 rfl), rfl⟩
set_option maxRecDepth 20000 in
theorem tb733 : (Jvm.Cond.code ({ cls := "WhoIsThere$Store", name := "put", desc := "(IIIII)V" } : Jvm.MethodName) prog_8_method_6_code (6 : Nat) (Option.none : Option FieldType)) ∈ xa_G := List.mem_filter.mpr ⟨List.mem_append_right _ (xa_t4 13 rfl), rfl⟩
set_option maxRecDepth 20000 in
theorem tb734 : (Jvm.Cond.methodLink "WhoIsThere" (177 : Nat) ({ cls := "WhoIsThere", name := "forgetWhatEnds", desc := "()V" } : Jvm.MethodName)) ∈ xa_G := List.mem_filter.mpr ⟨List.mem_append_right _ (xa_t4 14 rfl), rfl⟩
set_option maxRecDepth 20000 in
theorem tb736 : (Jvm.Cond.instanceMethod ({ cls := "WhoIsThere", name := "forgetWhatEnds", desc := "()V" } : Jvm.MethodName)) ∈ xa_G := List.mem_filter.mpr ⟨List.mem_append_right _ (xa_t4 16 rfl), rfl⟩
set_option maxRecDepth 20000 in
theorem tb737 : (Jvm.Cond.code ({ cls := "WhoIsThere", name := "forgetWhatEnds", desc := "()V" } : Jvm.MethodName) prog_1_method_66_code (2 : Nat) (Option.none : Option FieldType)) ∈ xa_G := List.mem_filter.mpr ⟨List.mem_append_right _ (xa_t4 17 rfl), rfl⟩
set_option maxRecDepth 20000 in
theorem tb738 : (Jvm.Cond.methodLink "WhoIsThere" (473 : Nat) ({ cls := "WhoIsThere$Store", name := "removeEnding", desc := "(I)V" } : Jvm.MethodName)) ∈ xa_G := List.mem_filter.mpr ⟨List.mem_append_right _ (xa_t4 18 rfl), rfl⟩
set_option maxRecDepth 20000 in
theorem tb739 : (Jvm.Cond.instanceMethod ({ cls := "WhoIsThere$Store", name := "removeEnding", desc := "(I)V" } : Jvm.MethodName)) ∈ xa_G := List.mem_filter.mpr ⟨List.mem_append_right _ (xa_t4 19 rfl), rfl⟩
set_option maxRecDepth 20000 in
theorem tb740 : (Jvm.Cond.selects "WhoIsThere$Store" ({ cls := "WhoIsThere$Store", name := "removeEnding", desc := "(I)V" } : Jvm.MethodName) ({ cls := "WhoIsThere$Store", name := "removeEnding", desc := "(I)V" } : Jvm.MethodName)) ∈ xa_G := List.mem_filter.mpr ⟨List.mem_append_right _ (xa_t4 20 rfl), rfl⟩
set_option maxRecDepth 20000 in
theorem tb741 : (Jvm.Cond.code ({ cls := "WhoIsThere$Store", name := "removeEnding", desc := "(I)V" } : Jvm.MethodName) prog_8_method_9_code (3 : Nat) (Option.none : Option FieldType)) ∈ xa_G := List.mem_filter.mpr ⟨List.mem_append_right _ (xa_t4 21 rfl), rfl⟩
set_option maxRecDepth 20000 in
theorem tb742 : (Jvm.Cond.methodLink "WhoIsThere$Store" (38 : Nat) ({ cls := "WhoIsThere$Store", name := "has", desc := "(I)Z" } : Jvm.MethodName)) ∈ xa_G := List.mem_filter.mpr ⟨List.mem_append_right _ (xa_t4 22 rfl), rfl⟩
set_option maxRecDepth 20000 in
theorem tb743 : (Jvm.Cond.methodLink "WhoIsThere$Store" (42 : Nat) ({ cls := "WhoIsThere$Store", name := "remove", desc := "(I)V" } : Jvm.MethodName)) ∈ xa_G := List.mem_filter.mpr ⟨List.mem_append_right _ (xa_t4 23 rfl), rfl⟩
set_option maxRecDepth 20000 in
theorem tb744 : (Jvm.Cond.methodLink "WhoIsThereLaw" (84 : Nat) ({ cls := "WhoIsThere", name := "find", desc := "(IIII)I" } : Jvm.MethodName)) ∈ xa_G := List.mem_filter.mpr ⟨List.mem_append_right _ (xa_t4 24 rfl), rfl⟩
set_option maxRecDepth 20000 in
theorem tb745 : (Jvm.Cond.instanceMethod ({ cls := "WhoIsThere", name := "find", desc := "(IIII)I" } : Jvm.MethodName)) ∈ xa_G := List.mem_filter.mpr ⟨List.mem_append_right _ (xa_t4 25 rfl), rfl⟩
set_option maxRecDepth 20000 in
theorem tb746 : (Jvm.Cond.selects "WhoIsThere" ({ cls := "WhoIsThere", name := "find", desc := "(IIII)I" } : Jvm.MethodName) ({ cls := "WhoIsThere", name := "find", desc := "(IIII)I" } : Jvm.MethodName)) ∈ xa_G := List.mem_filter.mpr ⟨List.mem_append_right _ (xa_t4 26 rfl), rfl⟩
set_option maxRecDepth 20000 in
theorem tb747 : (Jvm.Cond.code ({ cls := "WhoIsThere", name := "find", desc := "(IIII)I" } : Jvm.MethodName) prog_1_method_18_code (9 : Nat) (Option.some FieldType.int)) ∈ xa_G := List.mem_filter.mpr ⟨List.mem_append_right _ (xa_t4 27 rfl), rfl⟩
set_option maxRecDepth 20000 in
theorem tb748 : (Jvm.Cond.methodLink "WhoIsThere" (180 : Nat) ({ cls := "WhoIsThere", name := "isFound", desc := "(LWhoIsThere$Store;III)Z" } : Jvm.MethodName)) ∈ xa_G := List.mem_filter.mpr ⟨List.mem_append_right _ (xa_t4 28 rfl), rfl⟩
set_option maxRecDepth 20000 in
theorem tb750 : (Jvm.Cond.instanceMethod ({ cls := "WhoIsThere", name := "isFound", desc := "(LWhoIsThere$Store;III)Z" } : Jvm.MethodName)) ∈ xa_G := List.mem_filter.mpr ⟨List.mem_append_right _ (xa_t4 30 rfl), rfl⟩
set_option maxRecDepth 20000 in
theorem tb751 : (Jvm.Cond.code ({ cls := "WhoIsThere", name := "isFound", desc := "(LWhoIsThere$Store;III)Z" } : Jvm.MethodName) prog_1_method_40_code (5 : Nat) (Option.some FieldType.boolean)) ∈ xa_G := List.mem_filter.mpr ⟨List.mem_append_right _ (xa_t4 31 rfl), rfl⟩
set_option maxRecDepth 20000 in
theorem tb752 : (Jvm.Cond.methodLink "WhoIsThereLaw" (88 : Nat) ({ cls := "WhoIsThere", name := "record", desc := "(III)I" } : Jvm.MethodName)) ∈ xa_G := List.mem_filter.mpr ⟨List.mem_append_right _ (xa_t4 32 rfl), rfl⟩
set_option maxRecDepth 20000 in
theorem tb753 : (Jvm.Cond.instanceMethod ({ cls := "WhoIsThere", name := "record", desc := "(III)I" } : Jvm.MethodName)) ∈ xa_G := List.mem_filter.mpr ⟨List.mem_append_right _ (xa_t4 33 rfl), rfl⟩
set_option maxRecDepth 20000 in
theorem tb754 : (Jvm.Cond.selects "WhoIsThere" ({ cls := "WhoIsThere", name := "record", desc := "(III)I" } : Jvm.MethodName) ({ cls := "WhoIsThere", name := "record", desc := "(III)I" } : Jvm.MethodName)) ∈ xa_G := List.mem_filter.mpr ⟨List.mem_append_right _ (xa_t4 34 rfl), rfl⟩
set_option maxRecDepth 20000 in
theorem tb755 : (Jvm.Cond.code ({ cls := "WhoIsThere", name := "record", desc := "(III)I" } : Jvm.MethodName) prog_1_method_19_code (5 : Nat) (Option.some FieldType.int)) ∈ xa_G := List.mem_filter.mpr ⟨List.mem_append_right _ (xa_t4 35 rfl), rfl⟩
set_option maxRecDepth 20000 in
theorem tb756 : (Jvm.Cond.methodLink "WhoIsThereLaw" (93 : Nat) ({ cls := "WhoIsThere", name := "service", desc := "(II)I" } : Jvm.MethodName)) ∈ xa_G := List.mem_filter.mpr ⟨List.mem_append_right _ (xa_t4 36 rfl), rfl⟩
set_option maxRecDepth 20000 in
theorem tb757 : (Jvm.Cond.instanceMethod ({ cls := "WhoIsThere", name := "service", desc := "(II)I" } : Jvm.MethodName)) ∈ xa_G := List.mem_filter.mpr ⟨List.mem_append_right _ (xa_t4 37 rfl), rfl⟩
set_option maxRecDepth 20000 in
theorem tb758 : (Jvm.Cond.selects "WhoIsThere" ({ cls := "WhoIsThere", name := "service", desc := "(II)I" } : Jvm.MethodName) ({ cls := "WhoIsThere", name := "service", desc := "(II)I" } : Jvm.MethodName)) ∈ xa_G := List.mem_filter.mpr ⟨List.mem_append_right _ (xa_t4 38 rfl), rfl⟩
set_option maxRecDepth 20000 in
theorem tb759 : (Jvm.Cond.code ({ cls := "WhoIsThere", name := "service", desc := "(II)I" } : Jvm.MethodName) prog_1_method_20_code (4 : Nat) (Option.some FieldType.int)) ∈ xa_G := List.mem_filter.mpr ⟨List.mem_append_right _ (xa_t4 39 rfl), rfl⟩
set_option maxRecDepth 20000 in
theorem tb760 : (Jvm.Cond.methodLink "WhoIsThereLaw" (98 : Nat) ({ cls := "WhoIsThere", name := "look", desc := "(II)I" } : Jvm.MethodName)) ∈ xa_G := List.mem_filter.mpr ⟨List.mem_append_right _ (xa_t4 40 rfl), rfl⟩
set_option maxRecDepth 20000 in
theorem tb761 : (Jvm.Cond.instanceMethod ({ cls := "WhoIsThere", name := "look", desc := "(II)I" } : Jvm.MethodName)) ∈ xa_G := List.mem_filter.mpr ⟨List.mem_append_right _ (xa_t4 41 rfl), rfl⟩
set_option maxRecDepth 20000 in
theorem tb762 : (Jvm.Cond.selects "WhoIsThere" ({ cls := "WhoIsThere", name := "look", desc := "(II)I" } : Jvm.MethodName) ({ cls := "WhoIsThere", name := "look", desc := "(II)I" } : Jvm.MethodName)) ∈ xa_G := List.mem_filter.mpr ⟨List.mem_append_right _ (xa_t4 42 rfl), rfl⟩
set_option maxRecDepth 20000 in
theorem tb763 : (Jvm.Cond.code ({ cls := "WhoIsThere", name := "look", desc := "(II)I" } : Jvm.MethodName) prog_1_method_21_code (4 : Nat) (Option.some FieldType.int)) ∈ xa_G := List.mem_filter.mpr ⟨List.mem_append_right _ (xa_t4 43 rfl), rfl⟩
set_option maxRecDepth 20000 in
theorem tb764 : (Jvm.Cond.methodLink "WhoIsThere" (210 : Nat) ({ cls := "WhoIsThere", name := "hasProxyAwake", desc := "(LWhoIsThere$Host;)Z" } : Jvm.MethodName)) ∈ xa_G := List.mem_filter.mpr ⟨List.mem_append_right _ (xa_t4 44 rfl), rfl⟩
set_option maxRecDepth 20000 in
theorem tb766 : (Jvm.Cond.instanceMethod ({ cls := "WhoIsThere", name := "hasProxyAwake", desc := "(LWhoIsThere$Host;)Z" } : Jvm.MethodName)) ∈ xa_G := List.mem_filter.mpr ⟨List.mem_append_right _ (xa_t4 46 rfl), rfl⟩
set_option maxRecDepth 20000 in
theorem tb767 : (Jvm.Cond.code ({ cls := "WhoIsThere", name := "hasProxyAwake", desc := "(LWhoIsThere$Host;)Z" } : Jvm.MethodName) prog_1_method_38_code (2 : Nat) (Option.some FieldType.boolean)) ∈ xa_G := List.mem_filter.mpr ⟨List.mem_append_right _ (xa_t4 47 rfl), rfl⟩
set_option maxRecDepth 20000 in
theorem tb768 : (Jvm.Cond.methodLink "WhoIsThere" (216 : Nat) ({ cls := "WhoIsThere$Store", name := "size", desc := "()I" } : Jvm.MethodName)) ∈ xa_G := List.mem_filter.mpr ⟨List.mem_append_right _ (xa_t4 48 rfl), rfl⟩
set_option maxRecDepth 20000 in
theorem tb769 : (Jvm.Cond.instanceMethod ({ cls := "WhoIsThere$Store", name := "size", desc := "()I" } : Jvm.MethodName)) ∈ xa_G := List.mem_filter.mpr ⟨List.mem_append_right _ (xa_t4 49 rfl), rfl⟩
set_option maxRecDepth 20000 in
theorem tb770 : (Jvm.Cond.selects "WhoIsThere$Store" ({ cls := "WhoIsThere$Store", name := "size", desc := "()I" } : Jvm.MethodName) ({ cls := "WhoIsThere$Store", name := "size", desc := "()I" } : Jvm.MethodName)) ∈ xa_G := List.mem_filter.mpr ⟨List.mem_append_right _ (xa_t4 50 rfl), rfl⟩
set_option maxRecDepth 20000 in
theorem tb771 : (Jvm.Cond.code ({ cls := "WhoIsThere$Store", name := "size", desc := "()I" } : Jvm.MethodName) prog_8_method_3_code (1 : Nat) (Option.some FieldType.int)) ∈ xa_G := List.mem_filter.mpr ⟨List.mem_append_right _ (xa_t4 51 rfl), rfl⟩
set_option maxRecDepth 20000 in
theorem tb772 : (Jvm.Cond.methodLink "WhoIsThere$Store" (32 : Nat) ({ cls := "java/lang/Integer", name := "bitCount", desc := "(I)I" } : Jvm.MethodName)) ∈ xa_G := List.mem_filter.mpr ⟨List.mem_append_right _ (xa_t4 52 rfl), rfl⟩
set_option maxRecDepth 20000 in
theorem tb773 : (Jvm.Cond.methodLink "WhoIsThere" (220 : Nat) ({ cls := "WhoIsThere$Asks", name := "size", desc := "()I" } : Jvm.MethodName)) ∈ xa_G := List.mem_filter.mpr ⟨List.mem_append_right _ (xa_t4 53 rfl), rfl⟩
set_option maxRecDepth 20000 in
theorem tb774 : (Jvm.Cond.instanceMethod ({ cls := "WhoIsThere$Asks", name := "size", desc := "()I" } : Jvm.MethodName)) ∈ xa_G := List.mem_filter.mpr ⟨List.mem_append_right _ (xa_t4 54 rfl), rfl⟩
set_option maxRecDepth 20000 in
theorem tb775 : (Jvm.Cond.selects "WhoIsThere$Asks" ({ cls := "WhoIsThere$Asks", name := "size", desc := "()I" } : Jvm.MethodName) ({ cls := "WhoIsThere$Asks", name := "size", desc := "()I" } : Jvm.MethodName)) ∈ xa_G := List.mem_filter.mpr ⟨List.mem_append_right _ (xa_t4 55 rfl), rfl⟩
set_option maxRecDepth 20000 in
theorem tb776 : (Jvm.Cond.code ({ cls := "WhoIsThere$Asks", name := "size", desc := "()I" } : Jvm.MethodName) prog_3_method_5_code (1 : Nat) (Option.some FieldType.int)) ∈ xa_G := List.mem_filter.mpr ⟨List.mem_append_right _ (xa_t4 56 rfl), rfl⟩
set_option maxRecDepth 20000 in
theorem tb777 : (Jvm.Cond.methodLink "WhoIsThere$Asks" (30 : Nat) ({ cls := "java/lang/Integer", name := "bitCount", desc := "(I)I" } : Jvm.MethodName)) ∈ xa_G := List.mem_filter.mpr ⟨List.mem_append_right _ (xa_t4 57 rfl), rfl⟩
set_option maxRecDepth 20000 in
theorem tb778 : (Jvm.Cond.methodLink "WhoIsThere" (221 : Nat) ({ cls := "WhoIsThere$Answers", name := "size", desc := "()I" } : Jvm.MethodName)) ∈ xa_G := List.mem_filter.mpr ⟨List.mem_append_right _ (xa_t4 58 rfl), rfl⟩
set_option maxRecDepth 20000 in
theorem tb779 : (Jvm.Cond.instanceMethod ({ cls := "WhoIsThere$Answers", name := "size", desc := "()I" } : Jvm.MethodName)) ∈ xa_G := List.mem_filter.mpr ⟨List.mem_append_right _ (xa_t4 59 rfl), rfl⟩
set_option maxRecDepth 20000 in
theorem tb780 : (Jvm.Cond.selects "WhoIsThere$Answers" ({ cls := "WhoIsThere$Answers", name := "size", desc := "()I" } : Jvm.MethodName) ({ cls := "WhoIsThere$Answers", name := "size", desc := "()I" } : Jvm.MethodName)) ∈ xa_G := List.mem_filter.mpr ⟨List.mem_append_right _ (xa_t4 60 rfl), rfl⟩
set_option maxRecDepth 20000 in
theorem tb781 : (Jvm.Cond.code ({ cls := "WhoIsThere$Answers", name := "size", desc := "()I" } : Jvm.MethodName) prog_2_method_3_code (1 : Nat) (Option.some FieldType.int)) ∈ xa_G := List.mem_filter.mpr ⟨List.mem_append_right _ (xa_t4 61 rfl), rfl⟩
set_option maxRecDepth 20000 in
theorem tb782 : (Jvm.Cond.methodLink "WhoIsThere$Answers" (23 : Nat) ({ cls := "java/lang/Integer", name := "bitCount", desc := "(I)I" } : Jvm.MethodName)) ∈ xa_G := List.mem_filter.mpr ⟨List.mem_append_right _ (xa_t4 62 rfl), rfl⟩
set_option maxRecDepth 20000 in
theorem tb783 : (Jvm.Cond.methodLink "WhoIsThereLaw" (102 : Nat) ({ cls := "WhoIsThere", name := "reach", desc := "(II)I" } : Jvm.MethodName)) ∈ xa_G := List.mem_filter.mpr ⟨List.mem_append_right _ (xa_t4 63 rfl), rfl⟩
set_option maxRecDepth 20000 in
theorem tb784 : (Jvm.Cond.instanceMethod ({ cls := "WhoIsThere", name := "reach", desc := "(II)I" } : Jvm.MethodName)) ∈ xa_G := List.mem_filter.mpr ⟨List.mem_append_right _ (xa_t4 64 rfl), rfl⟩
set_option maxRecDepth 20000 in
theorem tb785 : (Jvm.Cond.selects "WhoIsThere" ({ cls := "WhoIsThere", name := "reach", desc := "(II)I" } : Jvm.MethodName) ({ cls := "WhoIsThere", name := "reach", desc := "(II)I" } : Jvm.MethodName)) ∈ xa_G := List.mem_filter.mpr ⟨List.mem_append_right _ (xa_t4 65 rfl), rfl⟩
set_option maxRecDepth 20000 in
theorem tb786 : (Jvm.Cond.code ({ cls := "WhoIsThere", name := "reach", desc := "(II)I" } : Jvm.MethodName) prog_1_method_22_code (5 : Nat) (Option.some FieldType.int)) ∈ xa_G := List.mem_filter.mpr ⟨List.mem_append_right _ (xa_t4 66 rfl), rfl⟩
set_option maxRecDepth 20000 in
theorem tb787 : (Jvm.Cond.methodLink "WhoIsThereLaw" (106 : Nat) ({ cls := "WhoIsThere", name := "twice", desc := "(I)I" } : Jvm.MethodName)) ∈ xa_G := List.mem_filter.mpr ⟨List.mem_append_right _ (xa_t4 67 rfl), rfl⟩
set_option maxRecDepth 20000 in
theorem tb788 : (Jvm.Cond.instanceMethod ({ cls := "WhoIsThere", name := "twice", desc := "(I)I" } : Jvm.MethodName)) ∈ xa_G := List.mem_filter.mpr ⟨List.mem_append_right _ (xa_t4 68 rfl), rfl⟩
set_option maxRecDepth 20000 in
theorem tb789 : (Jvm.Cond.selects "WhoIsThere" ({ cls := "WhoIsThere", name := "twice", desc := "(I)I" } : Jvm.MethodName) ({ cls := "WhoIsThere", name := "twice", desc := "(I)I" } : Jvm.MethodName)) ∈ xa_G := List.mem_filter.mpr ⟨List.mem_append_right _ (xa_t4 69 rfl), rfl⟩
set_option maxRecDepth 20000 in
theorem tb790 : (Jvm.Cond.code ({ cls := "WhoIsThere", name := "twice", desc := "(I)I" } : Jvm.MethodName) prog_1_method_23_code (5 : Nat) (Option.some FieldType.int)) ∈ xa_G := List.mem_filter.mpr ⟨List.mem_append_right _ (xa_t4 70 rfl), rfl⟩
set_option maxRecDepth 20000 in
theorem tb791 : (Jvm.Cond.methodLink "WhoIsThere" (222 : Nat) ({ cls := "WhoIsThere", name := "isSpokenForOn", desc := "(LWhoIsThere$Service;I)Z" } : Jvm.MethodName)) ∈ xa_G := List.mem_filter.mpr ⟨List.mem_append_right _ (xa_t4 71 rfl), rfl⟩
set_option maxRecDepth 20000 in
theorem tb793 : (Jvm.Cond.instanceMethod ({ cls := "WhoIsThere", name := "isSpokenForOn", desc := "(LWhoIsThere$Service;I)Z" } : Jvm.MethodName)) ∈ xa_G := List.mem_filter.mpr ⟨List.mem_append_right _ (xa_t4 73 rfl), rfl⟩
set_option maxRecDepth 20000 in
theorem tb794 : (Jvm.Cond.code ({ cls := "WhoIsThere", name := "isSpokenForOn", desc := "(LWhoIsThere$Service;I)Z" } : Jvm.MethodName) prog_1_method_39_code (3 : Nat) (Option.some FieldType.boolean)) ∈ xa_G := List.mem_filter.mpr ⟨List.mem_append_right _ (xa_t4 74 rfl), rfl⟩
set_option maxRecDepth 20000 in
theorem tb795 : (Jvm.Cond.methodLink "WhoIsThereLaw" (110 : Nat) ({ cls := "WhoIsThere", name := "count", desc := "(I)I" } : Jvm.MethodName)) ∈ xa_G := List.mem_filter.mpr ⟨List.mem_append_right _ (xa_t4 75 rfl), rfl⟩
set_option maxRecDepth 20000 in
theorem tb796 : (Jvm.Cond.instanceMethod ({ cls := "WhoIsThere", name := "count", desc := "(I)I" } : Jvm.MethodName)) ∈ xa_G := List.mem_filter.mpr ⟨List.mem_append_right _ (xa_t4 76 rfl), rfl⟩
set_option maxRecDepth 20000 in
theorem tb797 : (Jvm.Cond.selects "WhoIsThere" ({ cls := "WhoIsThere", name := "count", desc := "(I)I" } : Jvm.MethodName) ({ cls := "WhoIsThere", name := "count", desc := "(I)I" } : Jvm.MethodName)) ∈ xa_G := List.mem_filter.mpr ⟨List.mem_append_right _ (xa_t4 77 rfl), rfl⟩
set_option maxRecDepth 20000 in
theorem tb798 : (Jvm.Cond.code ({ cls := "WhoIsThere", name := "count", desc := "(I)I" } : Jvm.MethodName) prog_1_method_24_code (2 : Nat) (Option.some FieldType.int)) ∈ xa_G := List.mem_filter.mpr ⟨List.mem_append_right _ (xa_t4 78 rfl), rfl⟩
set_option maxRecDepth 20000 in
theorem tb799 : (Jvm.Cond.classLink "WhoIsThereLaw" (10 : Nat) "WhoIsThereModel") ∈ xa_G := List.mem_filter.mpr ⟨List.mem_append_right _ (xa_t4 79 rfl), rfl⟩
set_option maxRecDepth 20000 in
theorem tb800 : (Jvm.Cond.instantiable "WhoIsThereModel" (60 : Nat)) ∈ xa_G := List.mem_filter.mpr ⟨List.mem_append_right _ (xa_t4 80 rfl), rfl⟩
set_option maxRecDepth 20000 in
theorem tb801 : (Jvm.Cond.methodLink "WhoIsThereLaw" (12 : Nat) ({ cls := "WhoIsThereModel", name := "<init>", desc := "()V" } : Jvm.MethodName)) ∈ xa_G := List.mem_filter.mpr ⟨List.mem_append_right _ (xa_t4 81 rfl), rfl⟩
set_option maxRecDepth 20000 in
theorem tb802 : (Jvm.Cond.instanceMethod ({ cls := "WhoIsThereModel", name := "<init>", desc := "()V" } : Jvm.MethodName)) ∈ xa_G := List.mem_filter.mpr ⟨List.mem_append_right _ (xa_t4 82 rfl), rfl⟩
set_option maxRecDepth 20000 in
theorem tb803 : (Jvm.Cond.code ({ cls := "WhoIsThereModel", name := "<init>", desc := "()V" } : Jvm.MethodName) prog_10_method_1_code (2 : Nat) (Option.none : Option FieldType)) ∈ xa_G := List.mem_filter.mpr ⟨List.mem_append_right _ (xa_t4 83 rfl), rfl⟩
set_option maxRecDepth 20000 in
theorem tb804 : (Jvm.Cond.methodLink "WhoIsThereModel" (3 : Nat) ({ cls := "java/lang/Object", name := "<init>", desc := "()V" } : Jvm.MethodName)) ∈ xa_G := List.mem_filter.mpr ⟨List.mem_append_right _ (xa_t4 84 rfl), rfl⟩
set_option maxRecDepth 20000 in
theorem tb805 : (Jvm.Cond.fieldLink "WhoIsThereModel" (9 : Nat) "WhoIsThereModel" "home" "[I") ∈ xa_G := List.mem_filter.mpr ⟨List.mem_append_right _ (xa_t4 85 rfl), rfl⟩
set_option maxRecDepth 20000 in
theorem tb806 : (Jvm.Cond.fieldLink "WhoIsThereModel" (13 : Nat) "WhoIsThereModel" "second" "[I") ∈ xa_G := List.mem_filter.mpr ⟨List.mem_append_right _ (xa_t4 86 rfl), rfl⟩
set_option maxRecDepth 20000 in
theorem tb807 : (Jvm.Cond.fieldLink "WhoIsThereModel" (16 : Nat) "WhoIsThereModel" "low" "[I") ∈ xa_G := List.mem_filter.mpr ⟨List.mem_append_right _ (xa_t4 87 rfl), rfl⟩
set_option maxRecDepth 20000 in
theorem tb808 : (Jvm.Cond.fieldLink "WhoIsThereModel" (19 : Nat) "WhoIsThereModel" "high" "[I") ∈ xa_G := List.mem_filter.mpr ⟨List.mem_append_right _ (xa_t4 88 rfl), rfl⟩
set_option maxRecDepth 20000 in
theorem tb809 : (Jvm.Cond.fieldLink "WhoIsThereModel" (22 : Nat) "WhoIsThereModel" "rank" "[I") ∈ xa_G := List.mem_filter.mpr ⟨List.mem_append_right _ (xa_t4 89 rfl), rfl⟩
set_option maxRecDepth 20000 in
theorem tb810 : (Jvm.Cond.fieldLink "WhoIsThereModel" (25 : Nat) "WhoIsThereModel" "how" "[I") ∈ xa_G := List.mem_filter.mpr ⟨List.mem_append_right _ (xa_t4 90 rfl), rfl⟩
set_option maxRecDepth 20000 in
theorem tb811 : (Jvm.Cond.fieldLink "WhoIsThereModel" (28 : Nat) "WhoIsThereModel" "leaves" "[Z") ∈ xa_G := List.mem_filter.mpr ⟨List.mem_append_right _ (xa_t4 91 rfl), rfl⟩
set_option maxRecDepth 20000 in
theorem tb812 : (Jvm.Cond.fieldLink "WhoIsThereModel" (32 : Nat) "WhoIsThereModel" "isKeeper" "[Z") ∈ xa_G := List.mem_filter.mpr ⟨List.mem_append_right _ (xa_t4 92 rfl), rfl⟩
set_option maxRecDepth 20000 in
theorem tb813 : (Jvm.Cond.fieldLink "WhoIsThereModel" (35 : Nat) "WhoIsThereModel" "isBridge" "[Z") ∈ xa_G := List.mem_filter.mpr ⟨List.mem_append_right _ (xa_t4 93 rfl), rfl⟩
set_option maxRecDepth 20000 in
theorem tb814 : (Jvm.Cond.fieldLink "WhoIsThereModel" (38 : Nat) "WhoIsThereModel" "kinds" "[I") ∈ xa_G := List.mem_filter.mpr ⟨List.mem_append_right _ (xa_t4 94 rfl), rfl⟩
set_option maxRecDepth 20000 in
theorem tb815 : (Jvm.Cond.fieldLink "WhoIsThereModel" (41 : Nat) "WhoIsThereModel" "proxy" "[I") ∈ xa_G := List.mem_filter.mpr ⟨List.mem_append_right _ (xa_t4 95 rfl), rfl⟩
set_option maxRecDepth 20000 in
theorem tb816 : (Jvm.Cond.fieldLink "WhoIsThereModel" (44 : Nat) "WhoIsThereModel" "wrote" "[I") ∈ xa_G := List.mem_filter.mpr ⟨List.mem_append_right _ (xa_t4 96 rfl), rfl⟩
set_option maxRecDepth 20000 in
theorem tb817 : (Jvm.Cond.fieldLink "WhoIsThereModel" (47 : Nat) "WhoIsThereModel" "loses" "[I") ∈ xa_G := List.mem_filter.mpr ⟨List.mem_append_right _ (xa_t4 97 rfl), rfl⟩
set_option maxRecDepth 20000 in
theorem tb818 : (Jvm.Cond.fieldLink "WhoIsThereModel" (50 : Nat) "WhoIsThereModel" "deaf" "[I") ∈ xa_G := List.mem_filter.mpr ⟨List.mem_append_right _ (xa_t4 98 rfl), rfl⟩
set_option maxRecDepth 20000 in
theorem tb819 : (Jvm.Cond.fieldLink "WhoIsThereModel" (155 : Nat) "WhoIsThereModel" "hosts" "I") ∈ xa_G := List.mem_filter.mpr ⟨List.mem_append_right _ (xa_t4 99 rfl), rfl⟩
set_option maxRecDepth 20000 in
theorem tb820 : (Jvm.Cond.fieldLink "WhoIsThereModel" (53 : Nat) "WhoIsThereModel" "hostOf" "[I") ∈ xa_G := List.mem_filter.mpr ⟨List.mem_append_right _ (xa_t4 100 rfl), rfl⟩
set_option maxRecDepth 20000 in
theorem tb821 : (Jvm.Cond.fieldLink "WhoIsThereModel" (56 : Nat) "WhoIsThereModel" "kind" "[I") ∈ xa_G := List.mem_filter.mpr ⟨List.mem_append_right _ (xa_t4 101 rfl), rfl⟩
set_option maxRecDepth 20000 in
theorem tb822 : (Jvm.Cond.fieldLink "WhoIsThereModel" (59 : Nat) "WhoIsThereModel" "name" "[I") ∈ xa_G := List.mem_filter.mpr ⟨List.mem_append_right _ (xa_t4 102 rfl), rfl⟩
set_option maxRecDepth 20000 in
theorem tb823 : (Jvm.Cond.fieldLink "WhoIsThereModel" (62 : Nat) "WhoIsThereModel" "marks" "[I") ∈ xa_G := List.mem_filter.mpr ⟨List.mem_append_right _ (xa_t4 103 rfl), rfl⟩
set_option maxRecDepth 20000 in
theorem tb824 : (Jvm.Cond.fieldLink "WhoIsThereModel" (65 : Nat) "WhoIsThereModel" "life" "[I") ∈ xa_G := List.mem_filter.mpr ⟨List.mem_append_right _ (xa_t4 104 rfl), rfl⟩
set_option maxRecDepth 20000 in
theorem tb825 : (Jvm.Cond.fieldLink "WhoIsThereModel" (68 : Nat) "WhoIsThereModel" "is" "[I") ∈ xa_G := List.mem_filter.mpr ⟨List.mem_append_right _ (xa_t4 105 rfl), rfl⟩
set_option maxRecDepth 20000 in
theorem tb826 : (Jvm.Cond.fieldLink "WhoIsThereModel" (71 : Nat) "WhoIsThereModel" "claims" "[I") ∈ xa_G := List.mem_filter.mpr ⟨List.mem_append_right _ (xa_t4 106 rfl), rfl⟩
set_option maxRecDepth 20000 in
theorem tb827 : (Jvm.Cond.fieldLink "WhoIsThereModel" (74 : Nat) "WhoIsThereModel" "renewal" "[I") ∈ xa_G := List.mem_filter.mpr ⟨List.mem_append_right _ (xa_t4 107 rfl), rfl⟩
set_option maxRecDepth 20000 in
theorem tb828 : (Jvm.Cond.fieldLink "WhoIsThereModel" (77 : Nat) "WhoIsThereModel" "yielded" "[I") ∈ xa_G := List.mem_filter.mpr ⟨List.mem_append_right _ (xa_t4 108 rfl), rfl⟩
set_option maxRecDepth 20000 in
theorem tb829 : (Jvm.Cond.fieldLink "WhoIsThereModel" (80 : Nat) "WhoIsThereModel" "hasBye" "[Z") ∈ xa_G := List.mem_filter.mpr ⟨List.mem_append_right _ (xa_t4 109 rfl), rfl⟩
set_option maxRecDepth 20000 in
theorem tb830 : (Jvm.Cond.fieldLink "WhoIsThereModel" (83 : Nat) "WhoIsThereModel" "isFalse" "[Z") ∈ xa_G := List.mem_filter.mpr ⟨List.mem_append_right _ (xa_t4 110 rfl), rfl⟩
set_option maxRecDepth 20000 in
theorem tb831 : (Jvm.Cond.fieldLink "WhoIsThereModel" (170 : Nat) "WhoIsThereModel" "services" "I") ∈ xa_G := List.mem_filter.mpr ⟨List.mem_append_right _ (xa_t4 111 rfl), rfl⟩
set_option maxRecDepth 20000 in
theorem tb832 : (Jvm.Cond.fieldLink "WhoIsThereModel" (86 : Nat) "WhoIsThereModel" "hasRecord" "[Z") ∈ xa_G := List.mem_filter.mpr ⟨List.mem_append_right _ (xa_t4 112 rfl), rfl⟩
set_option maxRecDepth 20000 in
theorem tb833 : (Jvm.Cond.fieldLink "WhoIsThereModel" (89 : Nat) "WhoIsThereModel" "recName" "[I") ∈ xa_G := List.mem_filter.mpr ⟨List.mem_append_right _ (xa_t4 113 rfl), rfl⟩
set_option maxRecDepth 20000 in
theorem tb834 : (Jvm.Cond.fieldLink "WhoIsThereModel" (92 : Nat) "WhoIsThereModel" "recMarks" "[I") ∈ xa_G := List.mem_filter.mpr ⟨List.mem_append_right _ (xa_t4 114 rfl), rfl⟩
set_option maxRecDepth 20000 in
theorem tb835 : (Jvm.Cond.fieldLink "WhoIsThereModel" (95 : Nat) "WhoIsThereModel" "recLife" "[I") ∈ xa_G := List.mem_filter.mpr ⟨List.mem_append_right _ (xa_t4 115 rfl), rfl⟩
set_option maxRecDepth 20000 in
theorem tb836 : (Jvm.Cond.fieldLink "WhoIsThereModel" (98 : Nat) "WhoIsThereModel" "recEnds" "[I") ∈ xa_G := List.mem_filter.mpr ⟨List.mem_append_right _ (xa_t4 116 rfl), rfl⟩
set_option maxRecDepth 20000 in
theorem tb837 : (Jvm.Cond.fieldLink "WhoIsThereModel" (101 : Nat) "WhoIsThereModel" "answerAt" "[I") ∈ xa_G := List.mem_filter.mpr ⟨List.mem_append_right _ (xa_t4 117 rfl), rfl⟩
set_option maxRecDepth 20000 in
theorem tb838 : (Jvm.Cond.fieldLink "WhoIsThereModel" (104 : Nat) "WhoIsThereModel" "hasAsk" "[Z") ∈ xa_G := List.mem_filter.mpr ⟨List.mem_append_right _ (xa_t4 118 rfl), rfl⟩
set_option maxRecDepth 20000 in
theorem tb839 : (Jvm.Cond.fieldLink "WhoIsThereModel" (107 : Nat) "WhoIsThereModel" "askMarks" "[I") ∈ xa_G := List.mem_filter.mpr ⟨List.mem_append_right _ (xa_t4 119 rfl), rfl⟩
set_option maxRecDepth 20000 in
theorem tb840 : (Jvm.Cond.fieldLink "WhoIsThereModel" (110 : Nat) "WhoIsThereModel" "askAt" "[I") ∈ xa_G := List.mem_filter.mpr ⟨List.mem_append_right _ (xa_t4 120 rfl), rfl⟩
set_option maxRecDepth 20000 in
theorem tb841 : (Jvm.Cond.fieldLink "WhoIsThereModel" (191 : Nat) "WhoIsThereModel" "tick" "I") ∈ xa_G := List.mem_filter.mpr ⟨List.mem_append_right _ (xa_t4 121 rfl), rfl⟩
set_option maxRecDepth 20000 in
theorem tb842 : (Jvm.Cond.fieldLink "WhoIsThereModel" (231 : Nat) "WhoIsThereModel" "letters" "I") ∈ xa_G := List.mem_filter.mpr ⟨List.mem_append_right _ (xa_t4 122 rfl), rfl⟩
set_option maxRecDepth 20000 in
theorem tb843 : (Jvm.Cond.fieldLink "WhoIsThereModel" (274 : Nat) "WhoIsThereModel" "lost" "I") ∈ xa_G := List.mem_filter.mpr ⟨List.mem_append_right _ (xa_t4 123 rfl), rfl⟩
set_option maxRecDepth 20000 in
theorem tb844 : (Jvm.Cond.fieldLink "WhoIsThereModel" (237 : Nat) "WhoIsThereModel" "yields" "I") ∈ xa_G := List.mem_filter.mpr ⟨List.mem_append_right _ (xa_t4 124 rfl), rfl⟩
set_option maxRecDepth 20000 in
theorem tb845 : (Jvm.Cond.fieldLink "WhoIsThereModel" (311 : Nat) "WhoIsThereModel" "lies" "I") ∈ xa_G := List.mem_filter.mpr ⟨List.mem_append_right _ (xa_t4 125 rfl), rfl⟩
set_option maxRecDepth 20000 in
theorem tb846 : (Jvm.Cond.fieldLink "WhoIsThereModel" (314 : Nat) "WhoIsThereModel" "leftOut" "I") ∈ xa_G := List.mem_filter.mpr ⟨List.mem_append_right _ (xa_t4 126 rfl), rfl⟩
set_option maxRecDepth 20000 in
theorem tb847 : (Jvm.Cond.fieldLink "WhoIsThereModel" (221 : Nat) "WhoIsThereModel" "woken" "I") ∈ xa_G := List.mem_filter.mpr ⟨List.mem_append_right _ (xa_t4 127 rfl), rfl⟩
set_option maxRecDepth 20000 in
theorem tb848 : (Jvm.Cond.fieldLink "WhoIsThereModel" (234 : Nat) "WhoIsThereModel" "lately" "I") ∈ xa_G := List.mem_filter.mpr ⟨List.mem_append_right _ (xa_t4 128 rfl), rfl⟩
set_option maxRecDepth 20000 in
theorem tb849 : (Jvm.Cond.fieldLink "WhoIsThereModel" (286 : Nat) "WhoIsThereModel" "carried" "I") ∈ xa_G := List.mem_filter.mpr ⟨List.mem_append_right _ (xa_t4 129 rfl), rfl⟩
set_option maxRecDepth 20000 in
theorem tb850 : (Jvm.Cond.fieldLink "WhoIsThereModel" (113 : Nat) "WhoIsThereModel" "writer" "[I") ∈ xa_G := List.mem_filter.mpr ⟨List.mem_append_right _ (xa_t4 130 rfl), rfl⟩
set_option maxRecDepth 20000 in
theorem tb851 : (Jvm.Cond.fieldLink "WhoIsThereModel" (116 : Nat) "WhoIsThereModel" "netOf" "[I") ∈ xa_G := List.mem_filter.mpr ⟨List.mem_append_right _ (xa_t4 131 rfl), rfl⟩
set_option maxRecDepth 20000 in
theorem tb852 : (Jvm.Cond.fieldLink "WhoIsThereModel" (225 : Nat) "WhoIsThereModel" "written" "I") ∈ xa_G := List.mem_filter.mpr ⟨List.mem_append_right _ (xa_t4 132 rfl), rfl⟩
set_option maxRecDepth 20000 in
theorem tb853 : (Jvm.Cond.fieldLink "WhoIsThereModel" (119 : Nat) "WhoIsThereModel" "lAsk" "[Z") ∈ xa_G := List.mem_filter.mpr ⟨List.mem_append_right _ (xa_t4 133 rfl), rfl⟩
set_option maxRecDepth 20000 in
theorem tb854 : (Jvm.Cond.fieldLink "WhoIsThereModel" (122 : Nat) "WhoIsThereModel" "lAskMarks" "[I") ∈ xa_G := List.mem_filter.mpr ⟨List.mem_append_right _ (xa_t4 134 rfl), rfl⟩
set_option maxRecDepth 20000 in
theorem tb855 : (Jvm.Cond.fieldLink "WhoIsThereModel" (125 : Nat) "WhoIsThereModel" "lKnown" "[I") ∈ xa_G := List.mem_filter.mpr ⟨List.mem_append_right _ (xa_t4 135 rfl), rfl⟩
set_option maxRecDepth 20000 in
theorem tb856 : (Jvm.Cond.fieldLink "WhoIsThereModel" (128 : Nat) "WhoIsThereModel" "lAskBore" "[I") ∈ xa_G := List.mem_filter.mpr ⟨List.mem_append_right _ (xa_t4 136 rfl), rfl⟩
set_option maxRecDepth 20000 in
theorem tb857 : (Jvm.Cond.fieldLink "WhoIsThereModel" (131 : Nat) "WhoIsThereModel" "lClaim" "[I") ∈ xa_G := List.mem_filter.mpr ⟨List.mem_append_right _ (xa_t4 137 rfl), rfl⟩
set_option maxRecDepth 20000 in
theorem tb858 : (Jvm.Cond.fieldLink "WhoIsThereModel" (134 : Nat) "WhoIsThereModel" "lClaimBore" "[I") ∈ xa_G := List.mem_filter.mpr ⟨List.mem_append_right _ (xa_t4 138 rfl), rfl⟩
set_option maxRecDepth 20000 in
theorem tb859 : (Jvm.Cond.fieldLink "WhoIsThereModel" (137 : Nat) "WhoIsThereModel" "lBye" "[Z") ∈ xa_G := List.mem_filter.mpr ⟨List.mem_append_right _ (xa_t4 139 rfl), rfl⟩
set_option maxRecDepth 20000 in
theorem tb860 : (Jvm.Cond.fieldLink "WhoIsThereModel" (140 : Nat) "WhoIsThereModel" "lByeBore" "[I") ∈ xa_G := List.mem_filter.mpr ⟨List.mem_append_right _ (xa_t4 140 rfl), rfl⟩
set_option maxRecDepth 20000 in
theorem tb861 : (Jvm.Cond.fieldLink "WhoIsThereModel" (143 : Nat) "WhoIsThereModel" "lTold" "[I") ∈ xa_G := List.mem_filter.mpr ⟨List.mem_append_right _ (xa_t4 141 rfl), rfl⟩
set_option maxRecDepth 20000 in
theorem tb862 : (Jvm.Cond.fieldLink "WhoIsThereModel" (146 : Nat) "WhoIsThereModel" "lToldMarks" "[I") ∈ xa_G := List.mem_filter.mpr ⟨List.mem_append_right _ (xa_t4 142 rfl), rfl⟩
set_option maxRecDepth 20000 in
theorem tb863 : (Jvm.Cond.fieldLink "WhoIsThereModel" (149 : Nat) "WhoIsThereModel" "lToldLife" "[I") ∈ xa_G := List.mem_filter.mpr ⟨List.mem_append_right _ (xa_t4 143 rfl), rfl⟩
set_option maxRecDepth 20000 in
theorem tb864 : (Jvm.Cond.fieldLink "WhoIsThereModel" (152 : Nat) "WhoIsThereModel" "lToldBore" "[I") ∈ xa_G := List.mem_filter.mpr ⟨List.mem_append_right _ (xa_t4 144 rfl), rfl⟩
set_option maxRecDepth 20000 in
theorem tb986 : (Jvm.Cond.arrayClass FieldType.boolean) ∈ xa_G := List.mem_filter.mpr ⟨List.mem_append_right _ (xa_t5 26 rfl), rfl⟩
set_option maxRecDepth 20000 in
theorem tb987 : (Jvm.Cond.methodLink "WhoIsThereLaw" (17 : Nat) ({ cls := "WhoIsThereModel", name := "host", desc := "(IIII)I" } : Jvm.MethodName)) ∈ xa_G := List.mem_filter.mpr ⟨List.mem_append_right _ (xa_t5 27 rfl), rfl⟩
set_option maxRecDepth 20000 in
theorem tb988 : (Jvm.Cond.instanceMethod ({ cls := "WhoIsThereModel", name := "host", desc := "(IIII)I" } : Jvm.MethodName)) ∈ xa_G := List.mem_filter.mpr ⟨List.mem_append_right _ (xa_t5 28 rfl), rfl⟩
set_option maxRecDepth 20000 in
theorem tb989 : (Jvm.Cond.selects "WhoIsThereModel" ({ cls := "WhoIsThereModel", name := "host", desc := "(IIII)I" } : Jvm.MethodName) ({ cls := "WhoIsThereModel", name := "host", desc := "(IIII)I" } : Jvm.MethodName)) ∈ xa_G := List.mem_filter.mpr ⟨List.mem_append_right _ (xa_t5 29 rfl), rfl⟩
set_option maxRecDepth 20000 in
theorem tb990 : (Jvm.Cond.code ({ cls := "WhoIsThereModel", name := "host", desc := "(IIII)I" } : Jvm.MethodName) prog_10_method_7_code (6 : Nat) (Option.some FieldType.int)) ∈ xa_G := List.mem_filter.mpr ⟨List.mem_append_right _ (xa_t5 30 rfl), rfl⟩
set_option maxRecDepth 20000 in
theorem tb991 : (Jvm.Cond.methodLink "WhoIsThereModel" (159 : Nat) ({ cls := "WhoIsThereModel", name := "in", desc := "(III)Z" } : Jvm.MethodName)) ∈ xa_G := List.mem_filter.mpr ⟨List.mem_append_right _ (xa_t5 31 rfl), rfl⟩
set_option maxRecDepth 20000 in
theorem tb992 : (Jvm.Cond.static ({ cls := "WhoIsThereModel", name := "in", desc := "(III)Z" } : Jvm.MethodName)) ∈ xa_G := List.mem_filter.mpr ⟨List.mem_append_right _ (xa_t5 32 rfl), rfl⟩
set_option maxRecDepth 20000 in
theorem tb993 : (Jvm.Cond.code ({ cls := "WhoIsThereModel", name := "in", desc := "(III)Z" } : Jvm.MethodName) prog_10_method_2_code (3 : Nat) (Option.some FieldType.boolean)) ∈ xa_G := List.mem_filter.mpr ⟨List.mem_append_right _ (xa_t5 33 rfl), rfl⟩
set_option maxRecDepth 20000 in
theorem tb994 : (Jvm.Cond.methodLink "WhoIsThereLaw" (22 : Nat) ({ cls := "WhoIsThereModel", name := "offer", desc := "(IIIII)I" } : Jvm.MethodName)) ∈ xa_G := List.mem_filter.mpr ⟨List.mem_append_right _ (xa_t5 34 rfl), rfl⟩
set_option maxRecDepth 20000 in
theorem tb995 : (Jvm.Cond.instanceMethod ({ cls := "WhoIsThereModel", name := "offer", desc := "(IIIII)I" } : Jvm.MethodName)) ∈ xa_G := List.mem_filter.mpr ⟨List.mem_append_right _ (xa_t5 35 rfl), rfl⟩
set_option maxRecDepth 20000 in
theorem tb996 : (Jvm.Cond.selects "WhoIsThereModel" ({ cls := "WhoIsThereModel", name := "offer", desc := "(IIIII)I" } : Jvm.MethodName) ({ cls := "WhoIsThereModel", name := "offer", desc := "(IIIII)I" } : Jvm.MethodName)) ∈ xa_G := List.mem_filter.mpr ⟨List.mem_append_right _ (xa_t5 36 rfl), rfl⟩
set_option maxRecDepth 20000 in
theorem tb997 : (Jvm.Cond.code ({ cls := "WhoIsThereModel", name := "offer", desc := "(IIIII)I" } : Jvm.MethodName) prog_10_method_12_code (6 : Nat) (Option.some FieldType.int)) ∈ xa_G := List.mem_filter.mpr ⟨List.mem_append_right _ (xa_t5 37 rfl), rfl⟩
set_option maxRecDepth 20000 in
theorem tb998 : (Jvm.Cond.methodLink "WhoIsThereModel" (180 : Nat) ({ cls := "WhoIsThereModel", name := "mayOffer", desc := "(IIII)Z" } : Jvm.MethodName)) ∈ xa_G := List.mem_filter.mpr ⟨List.mem_append_right _ (xa_t5 38 rfl), rfl⟩
set_option maxRecDepth 20000 in
theorem tb1000 : (Jvm.Cond.instanceMethod ({ cls := "WhoIsThereModel", name := "mayOffer", desc := "(IIII)Z" } : Jvm.MethodName)) ∈ xa_G := List.mem_filter.mpr ⟨List.mem_append_right _ (xa_t5 40 rfl), rfl⟩
set_option maxRecDepth 20000 in
theorem tb1001 : (Jvm.Cond.code ({ cls := "WhoIsThereModel", name := "mayOffer", desc := "(IIII)Z" } : Jvm.MethodName) prog_10_method_10_code (5 : Nat) (Option.some FieldType.boolean)) ∈ xa_G := List.mem_filter.mpr ⟨List.mem_append_right _ (xa_t5 41 rfl), rfl⟩
set_option maxRecDepth 20000 in
theorem tb1002 : (Jvm.Cond.methodLink "WhoIsThereModel" (173 : Nat) ({ cls := "WhoIsThereModel", name := "isUp", desc := "(I)Z" } : Jvm.MethodName)) ∈ xa_G := List.mem_filter.mpr ⟨List.mem_append_right _ (xa_t5 42 rfl), rfl⟩
set_option maxRecDepth 20000 in
theorem tb1004 : (Jvm.Cond.instanceMethod ({ cls := "WhoIsThereModel", name := "isUp", desc := "(I)Z" } : Jvm.MethodName)) ∈ xa_G := List.mem_filter.mpr ⟨List.mem_append_right _ (xa_t5 44 rfl), rfl⟩
set_option maxRecDepth 20000 in
theorem tb1005 : (Jvm.Cond.code ({ cls := "WhoIsThereModel", name := "isUp", desc := "(I)Z" } : Jvm.MethodName) prog_10_method_5_code (2 : Nat) (Option.some FieldType.boolean)) ∈ xa_G := List.mem_filter.mpr ⟨List.mem_append_right _ (xa_t5 45 rfl), rfl⟩
set_option maxRecDepth 20000 in
theorem tb1006 : (Jvm.Cond.methodLink "WhoIsThereModel" (167 : Nat) ({ cls := "WhoIsThereModel", name := "isAwake", desc := "(I)Z" } : Jvm.MethodName)) ∈ xa_G := List.mem_filter.mpr ⟨List.mem_append_right _ (xa_t5 46 rfl), rfl⟩
set_option maxRecDepth 20000 in
theorem tb1008 : (Jvm.Cond.instanceMethod ({ cls := "WhoIsThereModel", name := "isAwake", desc := "(I)Z" } : Jvm.MethodName)) ∈ xa_G := List.mem_filter.mpr ⟨List.mem_append_right _ (xa_t5 48 rfl), rfl⟩
set_option maxRecDepth 20000 in
theorem tb1009 : (Jvm.Cond.code ({ cls := "WhoIsThereModel", name := "isAwake", desc := "(I)Z" } : Jvm.MethodName) prog_10_method_4_code (2 : Nat) (Option.some FieldType.boolean)) ∈ xa_G := List.mem_filter.mpr ⟨List.mem_append_right _ (xa_t5 49 rfl), rfl⟩
set_option maxRecDepth 20000 in
theorem tb1010 : (Jvm.Cond.methodLink "WhoIsThereModel" (163 : Nat) ({ cls := "WhoIsThereModel", name := "isHost", desc := "(I)Z" } : Jvm.MethodName)) ∈ xa_G := List.mem_filter.mpr ⟨List.mem_append_right _ (xa_t5 50 rfl), rfl⟩
set_option maxRecDepth 20000 in
theorem tb1012 : (Jvm.Cond.instanceMethod ({ cls := "WhoIsThereModel", name := "isHost", desc := "(I)Z" } : Jvm.MethodName)) ∈ xa_G := List.mem_filter.mpr ⟨List.mem_append_right _ (xa_t5 52 rfl), rfl⟩
set_option maxRecDepth 20000 in
theorem tb1013 : (Jvm.Cond.code ({ cls := "WhoIsThereModel", name := "isHost", desc := "(I)Z" } : Jvm.MethodName) prog_10_method_3_code (2 : Nat) (Option.some FieldType.boolean)) ∈ xa_G := List.mem_filter.mpr ⟨List.mem_append_right _ (xa_t5 53 rfl), rfl⟩
set_option maxRecDepth 20000 in
theorem tb1014 : (Jvm.Cond.methodLink "WhoIsThereModel" (176 : Nat) ({ cls := "WhoIsThereModel", name := "many", desc := "(I)I" } : Jvm.MethodName)) ∈ xa_G := List.mem_filter.mpr ⟨List.mem_append_right _ (xa_t5 54 rfl), rfl⟩
set_option maxRecDepth 20000 in
theorem tb1016 : (Jvm.Cond.instanceMethod ({ cls := "WhoIsThereModel", name := "many", desc := "(I)I" } : Jvm.MethodName)) ∈ xa_G := List.mem_filter.mpr ⟨List.mem_append_right _ (xa_t5 56 rfl), rfl⟩
set_option maxRecDepth 20000 in
theorem tb1017 : (Jvm.Cond.code ({ cls := "WhoIsThereModel", name := "many", desc := "(I)I" } : Jvm.MethodName) prog_10_method_8_code (4 : Nat) (Option.some FieldType.int)) ∈ xa_G := List.mem_filter.mpr ⟨List.mem_append_right _ (xa_t5 57 rfl), rfl⟩
set_option maxRecDepth 20000 in
theorem tb1018 : (Jvm.Cond.methodLink "WhoIsThereModel" (184 : Nat) ({ cls := "WhoIsThereModel", name := "isNamed", desc := "(III)Z" } : Jvm.MethodName)) ∈ xa_G := List.mem_filter.mpr ⟨List.mem_append_right _ (xa_t5 58 rfl), rfl⟩
set_option maxRecDepth 20000 in
theorem tb1020 : (Jvm.Cond.instanceMethod ({ cls := "WhoIsThereModel", name := "isNamed", desc := "(III)Z" } : Jvm.MethodName)) ∈ xa_G := List.mem_filter.mpr ⟨List.mem_append_right _ (xa_t5 60 rfl), rfl⟩
set_option maxRecDepth 20000 in
theorem tb1021 : (Jvm.Cond.code ({ cls := "WhoIsThereModel", name := "isNamed", desc := "(III)Z" } : Jvm.MethodName) prog_10_method_9_code (5 : Nat) (Option.some FieldType.boolean)) ∈ xa_G := List.mem_filter.mpr ⟨List.mem_append_right _ (xa_t5 61 rfl), rfl⟩
set_option maxRecDepth 20000 in
theorem tb1022 : (Jvm.Cond.methodLink "WhoIsThereModel" (187 : Nat) ({ cls := "WhoIsThereModel", name := "comes", desc := "(IIIII)I" } : Jvm.MethodName)) ∈ xa_G := List.mem_filter.mpr ⟨List.mem_append_right _ (xa_t5 62 rfl), rfl⟩
set_option maxRecDepth 20000 in
theorem tb1024 : (Jvm.Cond.instanceMethod ({ cls := "WhoIsThereModel", name := "comes", desc := "(IIIII)I" } : Jvm.MethodName)) ∈ xa_G := List.mem_filter.mpr ⟨List.mem_append_right _ (xa_t5 64 rfl), rfl⟩
set_option maxRecDepth 20000 in
theorem tb1025 : (Jvm.Cond.code ({ cls := "WhoIsThereModel", name := "comes", desc := "(IIIII)I" } : Jvm.MethodName) prog_10_method_11_code (7 : Nat) (Option.some FieldType.int)) ∈ xa_G := List.mem_filter.mpr ⟨List.mem_append_right _ (xa_t5 65 rfl), rfl⟩
set_option maxRecDepth 20000 in
theorem tb1026 : (Jvm.Cond.methodLink "WhoIsThereLaw" (26 : Nat) ({ cls := "WhoIsThereModel", name := "lie", desc := "(IIIII)I" } : Jvm.MethodName)) ∈ xa_G := List.mem_filter.mpr ⟨List.mem_append_right _ (xa_t5 66 rfl), rfl⟩
set_option maxRecDepth 20000 in
theorem tb1027 : (Jvm.Cond.instanceMethod ({ cls := "WhoIsThereModel", name := "lie", desc := "(IIIII)I" } : Jvm.MethodName)) ∈ xa_G := List.mem_filter.mpr ⟨List.mem_append_right _ (xa_t5 67 rfl), rfl⟩
set_option maxRecDepth 20000 in
theorem tb1028 : (Jvm.Cond.selects "WhoIsThereModel" ({ cls := "WhoIsThereModel", name := "lie", desc := "(IIIII)I" } : Jvm.MethodName) ({ cls := "WhoIsThereModel", name := "lie", desc := "(IIIII)I" } : Jvm.MethodName)) ∈ xa_G := List.mem_filter.mpr ⟨List.mem_append_right _ (xa_t5 68 rfl), rfl⟩
set_option maxRecDepth 20000 in
theorem tb1029 : (Jvm.Cond.code ({ cls := "WhoIsThereModel", name := "lie", desc := "(IIIII)I" } : Jvm.MethodName) prog_10_method_13_code (7 : Nat) (Option.some FieldType.int)) ∈ xa_G := List.mem_filter.mpr ⟨List.mem_append_right _ (xa_t5 69 rfl), rfl⟩
set_option maxRecDepth 20000 in
theorem tb1030 : (Jvm.Cond.methodLink "WhoIsThereLaw" (31 : Nat) ({ cls := "WhoIsThereModel", name := "drop", desc := "(I)Z" } : Jvm.MethodName)) ∈ xa_G := List.mem_filter.mpr ⟨List.mem_append_right _ (xa_t5 70 rfl), rfl⟩
set_option maxRecDepth 20000 in
theorem tb1031 : (Jvm.Cond.instanceMethod ({ cls := "WhoIsThereModel", name := "drop", desc := "(I)Z" } : Jvm.MethodName)) ∈ xa_G := List.mem_filter.mpr ⟨List.mem_append_right _ (xa_t5 71 rfl), rfl⟩
set_option maxRecDepth 20000 in
theorem tb1032 : (Jvm.Cond.selects "WhoIsThereModel" ({ cls := "WhoIsThereModel", name := "drop", desc := "(I)Z" } : Jvm.MethodName) ({ cls := "WhoIsThereModel", name := "drop", desc := "(I)Z" } : Jvm.MethodName)) ∈ xa_G := List.mem_filter.mpr ⟨List.mem_append_right _ (xa_t5 72 rfl), rfl⟩
set_option maxRecDepth 20000 in
theorem tb1033 : (Jvm.Cond.code ({ cls := "WhoIsThereModel", name := "drop", desc := "(I)Z" } : Jvm.MethodName) prog_10_method_16_code (2 : Nat) (Option.some FieldType.boolean)) ∈ xa_G := List.mem_filter.mpr ⟨List.mem_append_right _ (xa_t5 73 rfl), rfl⟩
set_option maxRecDepth 20000 in
theorem tb1034 : (Jvm.Cond.methodLink "WhoIsThereModel" (197 : Nat) ({ cls := "WhoIsThereModel", name := "isOpen", desc := "(I)Z" } : Jvm.MethodName)) ∈ xa_G := List.mem_filter.mpr ⟨List.mem_append_right _ (xa_t5 74 rfl), rfl⟩
set_option maxRecDepth 20000 in
theorem tb1036 : (Jvm.Cond.instanceMethod ({ cls := "WhoIsThereModel", name := "isOpen", desc := "(I)Z" } : Jvm.MethodName)) ∈ xa_G := List.mem_filter.mpr ⟨List.mem_append_right _ (xa_t5 76 rfl), rfl⟩
set_option maxRecDepth 20000 in
theorem tb1037 : (Jvm.Cond.code ({ cls := "WhoIsThereModel", name := "isOpen", desc := "(I)Z" } : Jvm.MethodName) prog_10_method_15_code (2 : Nat) (Option.some FieldType.boolean)) ∈ xa_G := List.mem_filter.mpr ⟨List.mem_append_right _ (xa_t5 77 rfl), rfl⟩
set_option maxRecDepth 20000 in
theorem tb1038 : (Jvm.Cond.methodLink "WhoIsThereModel" (194 : Nat) ({ cls := "WhoIsThereModel", name := "isService", desc := "(I)Z" } : Jvm.MethodName)) ∈ xa_G := List.mem_filter.mpr ⟨List.mem_append_right _ (xa_t5 78 rfl), rfl⟩
set_option maxRecDepth 20000 in
theorem tb1040 : (Jvm.Cond.instanceMethod ({ cls := "WhoIsThereModel", name := "isService", desc := "(I)Z" } : Jvm.MethodName)) ∈ xa_G := List.mem_filter.mpr ⟨List.mem_append_right _ (xa_t5 80 rfl), rfl⟩
set_option maxRecDepth 20000 in
theorem tb1041 : (Jvm.Cond.code ({ cls := "WhoIsThereModel", name := "isService", desc := "(I)Z" } : Jvm.MethodName) prog_10_method_6_code (2 : Nat) (Option.some FieldType.boolean)) ∈ xa_G := List.mem_filter.mpr ⟨List.mem_append_right _ (xa_t5 81 rfl), rfl⟩
set_option maxRecDepth 20000 in
theorem tb1042 : (Jvm.Cond.methodLink "WhoIsThereModel" (200 : Nat) ({ cls := "WhoIsThereModel", name := "goes", desc := "(IZ)V" } : Jvm.MethodName)) ∈ xa_G := List.mem_filter.mpr ⟨List.mem_append_right _ (xa_t5 82 rfl), rfl⟩
set_option maxRecDepth 20000 in
theorem tb1044 : (Jvm.Cond.instanceMethod ({ cls := "WhoIsThereModel", name := "goes", desc := "(IZ)V" } : Jvm.MethodName)) ∈ xa_G := List.mem_filter.mpr ⟨List.mem_append_right _ (xa_t5 84 rfl), rfl⟩
set_option maxRecDepth 20000 in
theorem tb1045 : (Jvm.Cond.code ({ cls := "WhoIsThereModel", name := "goes", desc := "(IZ)V" } : Jvm.MethodName) prog_10_method_14_code (3 : Nat) (Option.none : Option FieldType)) ∈ xa_G := List.mem_filter.mpr ⟨List.mem_append_right _ (xa_t5 85 rfl), rfl⟩
set_option maxRecDepth 20000 in
theorem tb1046 : (Jvm.Cond.methodLink "WhoIsThereLaw" (36 : Nat) ({ cls := "WhoIsThereModel", name := "change", desc := "(II)Z" } : Jvm.MethodName)) ∈ xa_G := List.mem_filter.mpr ⟨List.mem_append_right _ (xa_t5 86 rfl), rfl⟩
set_option maxRecDepth 20000 in
theorem tb1047 : (Jvm.Cond.instanceMethod ({ cls := "WhoIsThereModel", name := "change", desc := "(II)Z" } : Jvm.MethodName)) ∈ xa_G := List.mem_filter.mpr ⟨List.mem_append_right _ (xa_t5 87 rfl), rfl⟩
set_option maxRecDepth 20000 in
theorem tb1048 : (Jvm.Cond.selects "WhoIsThereModel" ({ cls := "WhoIsThereModel", name := "change", desc := "(II)Z" } : Jvm.MethodName) ({ cls := "WhoIsThereModel", name := "change", desc := "(II)Z" } : Jvm.MethodName)) ∈ xa_G := List.mem_filter.mpr ⟨List.mem_append_right _ (xa_t5 88 rfl), rfl⟩
set_option maxRecDepth 20000 in
theorem tb1049 : (Jvm.Cond.code ({ cls := "WhoIsThereModel", name := "change", desc := "(II)Z" } : Jvm.MethodName) prog_10_method_17_code (3 : Nat) (Option.some FieldType.boolean)) ∈ xa_G := List.mem_filter.mpr ⟨List.mem_append_right _ (xa_t5 89 rfl), rfl⟩
set_option maxRecDepth 20000 in
theorem tb1050 : (Jvm.Cond.methodLink "WhoIsThereLaw" (41 : Nat) ({ cls := "WhoIsThereModel", name := "ask", desc := "(III)Z" } : Jvm.MethodName)) ∈ xa_G := List.mem_filter.mpr ⟨List.mem_append_right _ (xa_t5 90 rfl), rfl⟩
set_option maxRecDepth 20000 in
theorem tb1051 : (Jvm.Cond.instanceMethod ({ cls := "WhoIsThereModel", name := "ask", desc := "(III)Z" } : Jvm.MethodName)) ∈ xa_G := List.mem_filter.mpr ⟨List.mem_append_right _ (xa_t5 91 rfl), rfl⟩
set_option maxRecDepth 20000 in
theorem tb1052 : (Jvm.Cond.selects "WhoIsThereModel" ({ cls := "WhoIsThereModel", name := "ask", desc := "(III)Z" } : Jvm.MethodName) ({ cls := "WhoIsThereModel", name := "ask", desc := "(III)Z" } : Jvm.MethodName)) ∈ xa_G := List.mem_filter.mpr ⟨List.mem_append_right _ (xa_t5 92 rfl), rfl⟩
set_option maxRecDepth 20000 in
theorem tb1053 : (Jvm.Cond.code ({ cls := "WhoIsThereModel", name := "ask", desc := "(III)Z" } : Jvm.MethodName) prog_10_method_19_code (4 : Nat) (Option.some FieldType.boolean)) ∈ xa_G := List.mem_filter.mpr ⟨List.mem_append_right _ (xa_t5 93 rfl), rfl⟩
set_option maxRecDepth 20000 in
theorem tb1054 : (Jvm.Cond.methodLink "WhoIsThereModel" (204 : Nat) ({ cls := "WhoIsThereModel", name := "lot", desc := "(II)I" } : Jvm.MethodName)) ∈ xa_G := List.mem_filter.mpr ⟨List.mem_append_right _ (xa_t5 94 rfl), rfl⟩
set_option maxRecDepth 20000 in
theorem tb1055 : (Jvm.Cond.static ({ cls := "WhoIsThereModel", name := "lot", desc := "(II)I" } : Jvm.MethodName)) ∈ xa_G := List.mem_filter.mpr ⟨List.mem_append_right _ (xa_t5 95 rfl), rfl⟩
set_option maxRecDepth 20000 in
theorem tb1056 : (Jvm.Cond.code ({ cls := "WhoIsThereModel", name := "lot", desc := "(II)I" } : Jvm.MethodName) prog_10_method_18_code (2 : Nat) (Option.some FieldType.int)) ∈ xa_G := List.mem_filter.mpr ⟨List.mem_append_right _ (xa_t5 96 rfl), rfl⟩
set_option maxRecDepth 20000 in
theorem tb1057 : (Jvm.Cond.methodLink "WhoIsThereLaw" (45 : Nat) ({ cls := "WhoIsThereModel", name := "sleep", desc := "(II)Z" } : Jvm.MethodName)) ∈ xa_G := List.mem_filter.mpr ⟨List.mem_append_right _ (xa_t5 97 rfl), rfl⟩
set_option maxRecDepth 20000 in
theorem tb1058 : (Jvm.Cond.instanceMethod ({ cls := "WhoIsThereModel", name := "sleep", desc := "(II)Z" } : Jvm.MethodName)) ∈ xa_G := List.mem_filter.mpr ⟨List.mem_append_right _ (xa_t5 98 rfl), rfl⟩
set_option maxRecDepth 20000 in
theorem tb1059 : (Jvm.Cond.selects "WhoIsThereModel" ({ cls := "WhoIsThereModel", name := "sleep", desc := "(II)Z" } : Jvm.MethodName) ({ cls := "WhoIsThereModel", name := "sleep", desc := "(II)Z" } : Jvm.MethodName)) ∈ xa_G := List.mem_filter.mpr ⟨List.mem_append_right _ (xa_t5 99 rfl), rfl⟩
set_option maxRecDepth 20000 in
theorem tb1060 : (Jvm.Cond.code ({ cls := "WhoIsThereModel", name := "sleep", desc := "(II)Z" } : Jvm.MethodName) prog_10_method_20_code (3 : Nat) (Option.some FieldType.boolean)) ∈ xa_G := List.mem_filter.mpr ⟨List.mem_append_right _ (xa_t5 100 rfl), rfl⟩
set_option maxRecDepth 20000 in
theorem tb1061 : (Jvm.Cond.methodLink "WhoIsThereLaw" (49 : Nat) ({ cls := "WhoIsThereModel", name := "wake", desc := "(I)Z" } : Jvm.MethodName)) ∈ xa_G := List.mem_filter.mpr ⟨List.mem_append_right _ (xa_t5 101 rfl), rfl⟩
set_option maxRecDepth 20000 in
theorem tb1062 : (Jvm.Cond.instanceMethod ({ cls := "WhoIsThereModel", name := "wake", desc := "(I)Z" } : Jvm.MethodName)) ∈ xa_G := List.mem_filter.mpr ⟨List.mem_append_right _ (xa_t5 102 rfl), rfl⟩
set_option maxRecDepth 20000 in
theorem tb1063 : (Jvm.Cond.selects "WhoIsThereModel" ({ cls := "WhoIsThereModel", name := "wake", desc := "(I)Z" } : Jvm.MethodName) ({ cls := "WhoIsThereModel", name := "wake", desc := "(I)Z" } : Jvm.MethodName)) ∈ xa_G := List.mem_filter.mpr ⟨List.mem_append_right _ (xa_t5 103 rfl), rfl⟩
set_option maxRecDepth 20000 in
theorem tb1064 : (Jvm.Cond.code ({ cls := "WhoIsThereModel", name := "wake", desc := "(I)Z" } : Jvm.MethodName) prog_10_method_22_code (2 : Nat) (Option.some FieldType.boolean)) ∈ xa_G := List.mem_filter.mpr ⟨List.mem_append_right _ (xa_t5 104 rfl), rfl⟩
set_option maxRecDepth 20000 in
theorem tb1065 : (Jvm.Cond.methodLink "WhoIsThereModel" (208 : Nat) ({ cls := "WhoIsThereModel", name := "wakes", desc := "(I)V" } : Jvm.MethodName)) ∈ xa_G := List.mem_filter.mpr ⟨List.mem_append_right _ (xa_t5 105 rfl), rfl⟩
set_option maxRecDepth 20000 in
theorem tb1067 : (Jvm.Cond.instanceMethod ({ cls := "WhoIsThereModel", name := "wakes", desc := "(I)V" } : Jvm.MethodName)) ∈ xa_G := List.mem_filter.mpr ⟨List.mem_append_right _ (xa_t5 107 rfl), rfl⟩
set_option maxRecDepth 20000 in
theorem tb1068 : (Jvm.Cond.code ({ cls := "WhoIsThereModel", name := "wakes", desc := "(I)V" } : Jvm.MethodName) prog_10_method_21_code (2 : Nat) (Option.none : Option FieldType)) ∈ xa_G := List.mem_filter.mpr ⟨List.mem_append_right _ (xa_t5 108 rfl), rfl⟩
set_option maxRecDepth 20000 in
theorem tb1069 : (Jvm.Cond.methodLink "WhoIsThereLaw" (53 : Nat) ({ cls := "WhoIsThereModel", name := "fall", desc := "(I)Z" } : Jvm.MethodName)) ∈ xa_G := List.mem_filter.mpr ⟨List.mem_append_right _ (xa_t5 109 rfl), rfl⟩
set_option maxRecDepth 20000 in
theorem tb1070 : (Jvm.Cond.instanceMethod ({ cls := "WhoIsThereModel", name := "fall", desc := "(I)Z" } : Jvm.MethodName)) ∈ xa_G := List.mem_filter.mpr ⟨List.mem_append_right _ (xa_t5 110 rfl), rfl⟩
set_option maxRecDepth 20000 in
theorem tb1071 : (Jvm.Cond.selects "WhoIsThereModel" ({ cls := "WhoIsThereModel", name := "fall", desc := "(I)Z" } : Jvm.MethodName) ({ cls := "WhoIsThereModel", name := "fall", desc := "(I)Z" } : Jvm.MethodName)) ∈ xa_G := List.mem_filter.mpr ⟨List.mem_append_right _ (xa_t5 111 rfl), rfl⟩
set_option maxRecDepth 20000 in
theorem tb1072 : (Jvm.Cond.code ({ cls := "WhoIsThereModel", name := "fall", desc := "(I)Z" } : Jvm.MethodName) prog_10_method_25_code (3 : Nat) (Option.some FieldType.boolean)) ∈ xa_G := List.mem_filter.mpr ⟨List.mem_append_right _ (xa_t5 112 rfl), rfl⟩
set_option maxRecDepth 20000 in
theorem tb1073 : (Jvm.Cond.methodLink "WhoIsThereModel" (218 : Nat) ({ cls := "WhoIsThereModel", name := "isGone", desc := "(I)V" } : Jvm.MethodName)) ∈ xa_G := List.mem_filter.mpr ⟨List.mem_append_right _ (xa_t5 113 rfl), rfl⟩
set_option maxRecDepth 20000 in
theorem tb1075 : (Jvm.Cond.instanceMethod ({ cls := "WhoIsThereModel", name := "isGone", desc := "(I)V" } : Jvm.MethodName)) ∈ xa_G := List.mem_filter.mpr ⟨List.mem_append_right _ (xa_t5 115 rfl), rfl⟩
set_option maxRecDepth 20000 in
theorem tb1076 : (Jvm.Cond.code ({ cls := "WhoIsThereModel", name := "isGone", desc := "(I)V" } : Jvm.MethodName) prog_10_method_24_code (3 : Nat) (Option.none : Option FieldType)) ∈ xa_G := List.mem_filter.mpr ⟨List.mem_append_right _ (xa_t5 116 rfl), rfl⟩
set_option maxRecDepth 20000 in
theorem tb1077 : (Jvm.Cond.methodLink "WhoIsThereModel" (212 : Nat) ({ cls := "WhoIsThereModel", name := "empties", desc := "(I)V" } : Jvm.MethodName)) ∈ xa_G := List.mem_filter.mpr ⟨List.mem_append_right _ (xa_t5 117 rfl), rfl⟩
set_option maxRecDepth 20000 in
theorem tb1079 : (Jvm.Cond.instanceMethod ({ cls := "WhoIsThereModel", name := "empties", desc := "(I)V" } : Jvm.MethodName)) ∈ xa_G := List.mem_filter.mpr ⟨List.mem_append_right _ (xa_t5 119 rfl), rfl⟩
set_option maxRecDepth 20000 in
theorem tb1080 : (Jvm.Cond.code ({ cls := "WhoIsThereModel", name := "empties", desc := "(I)V" } : Jvm.MethodName) prog_10_method_23_code (3 : Nat) (Option.none : Option FieldType)) ∈ xa_G := List.mem_filter.mpr ⟨List.mem_append_right _ (xa_t5 120 rfl), rfl⟩
set_option maxRecDepth 20000 in
theorem tb1081 : (Jvm.Cond.methodLink "WhoIsThereModel" (215 : Nat) ({ cls := "WhoIsThereModel", name := "clears", desc := "(I)V" } : Jvm.MethodName)) ∈ xa_G := List.mem_filter.mpr ⟨List.mem_append_right _ (xa_t5 121 rfl), rfl⟩
set_option maxRecDepth 20000 in
theorem tb1083 : (Jvm.Cond.instanceMethod ({ cls := "WhoIsThereModel", name := "clears", desc := "(I)V" } : Jvm.MethodName)) ∈ xa_G := List.mem_filter.mpr ⟨List.mem_append_right _ (xa_t5 123 rfl), rfl⟩
set_option maxRecDepth 20000 in
theorem tb1084 : (Jvm.Cond.code ({ cls := "WhoIsThereModel", name := "clears", desc := "(I)V" } : Jvm.MethodName) prog_10_method_32_code (3 : Nat) (Option.none : Option FieldType)) ∈ xa_G := List.mem_filter.mpr ⟨List.mem_append_right _ (xa_t5 124 rfl), rfl⟩
set_option maxRecDepth 20000 in
theorem tb1085 : (Jvm.Cond.methodLink "WhoIsThereLaw" (57 : Nat) ({ cls := "WhoIsThereModel", name := "leave", desc := "(I)Z" } : Jvm.MethodName)) ∈ xa_G := List.mem_filter.mpr ⟨List.mem_append_right _ (xa_t5 125 rfl), rfl⟩
set_option maxRecDepth 20000 in
theorem tb1086 : (Jvm.Cond.instanceMethod ({ cls := "WhoIsThereModel", name := "leave", desc := "(I)Z" } : Jvm.MethodName)) ∈ xa_G := List.mem_filter.mpr ⟨List.mem_append_right _ (xa_t5 126 rfl), rfl⟩
set_option maxRecDepth 20000 in
theorem tb1087 : (Jvm.Cond.selects "WhoIsThereModel" ({ cls := "WhoIsThereModel", name := "leave", desc := "(I)Z" } : Jvm.MethodName) ({ cls := "WhoIsThereModel", name := "leave", desc := "(I)Z" } : Jvm.MethodName)) ∈ xa_G := List.mem_filter.mpr ⟨List.mem_append_right _ (xa_t5 127 rfl), rfl⟩
set_option maxRecDepth 20000 in
theorem tb1088 : (Jvm.Cond.code ({ cls := "WhoIsThereModel", name := "leave", desc := "(I)Z" } : Jvm.MethodName) prog_10_method_26_code (3 : Nat) (Option.some FieldType.boolean)) ∈ xa_G := List.mem_filter.mpr ⟨List.mem_append_right _ (xa_t5 128 rfl), rfl⟩
set_option maxRecDepth 20000 in
theorem tb1089 : (Jvm.Cond.methodLink "WhoIsThereLaw" (62 : Nat) ({ cls := "WhoIsThereModel", name := "keeper", desc := "(IZ)Z" } : Jvm.MethodName)) ∈ xa_G := List.mem_filter.mpr ⟨List.mem_append_right _ (xa_t5 129 rfl), rfl⟩
set_option maxRecDepth 20000 in
theorem tb1090 : (Jvm.Cond.instanceMethod ({ cls := "WhoIsThereModel", name := "keeper", desc := "(IZ)Z" } : Jvm.MethodName)) ∈ xa_G := List.mem_filter.mpr ⟨List.mem_append_right _ (xa_t5 130 rfl), rfl⟩
set_option maxRecDepth 20000 in
theorem tb1091 : (Jvm.Cond.selects "WhoIsThereModel" ({ cls := "WhoIsThereModel", name := "keeper", desc := "(IZ)Z" } : Jvm.MethodName) ({ cls := "WhoIsThereModel", name := "keeper", desc := "(IZ)Z" } : Jvm.MethodName)) ∈ xa_G := List.mem_filter.mpr ⟨List.mem_append_right _ (xa_t5 131 rfl), rfl⟩
set_option maxRecDepth 20000 in
theorem tb1092 : (Jvm.Cond.code ({ cls := "WhoIsThereModel", name := "keeper", desc := "(IZ)Z" } : Jvm.MethodName) prog_10_method_27_code (3 : Nat) (Option.some FieldType.boolean)) ∈ xa_G := List.mem_filter.mpr ⟨List.mem_append_right _ (xa_t5 132 rfl), rfl⟩
set_option maxRecDepth 20000 in
theorem tb1093 : (Jvm.Cond.methodLink "WhoIsThereLaw" (66 : Nat) ({ cls := "WhoIsThereModel", name := "bridge", desc := "(III)Z" } : Jvm.MethodName)) ∈ xa_G := List.mem_filter.mpr ⟨List.mem_append_right _ (xa_t5 133 rfl), rfl⟩
set_option maxRecDepth 20000 in
theorem tb1094 : (Jvm.Cond.instanceMethod ({ cls := "WhoIsThereModel", name := "bridge", desc := "(III)Z" } : Jvm.MethodName)) ∈ xa_G := List.mem_filter.mpr ⟨List.mem_append_right _ (xa_t5 134 rfl), rfl⟩
set_option maxRecDepth 20000 in
theorem tb1095 : (Jvm.Cond.selects "WhoIsThereModel" ({ cls := "WhoIsThereModel", name := "bridge", desc := "(III)Z" } : Jvm.MethodName) ({ cls := "WhoIsThereModel", name := "bridge", desc := "(III)Z" } : Jvm.MethodName)) ∈ xa_G := List.mem_filter.mpr ⟨List.mem_append_right _ (xa_t5 135 rfl), rfl⟩
set_option maxRecDepth 20000 in
theorem tb1096 : (Jvm.Cond.code ({ cls := "WhoIsThereModel", name := "bridge", desc := "(III)Z" } : Jvm.MethodName) prog_10_method_28_code (5 : Nat) (Option.some FieldType.boolean)) ∈ xa_G := List.mem_filter.mpr ⟨List.mem_append_right _ (xa_t5 136 rfl), rfl⟩
set_option maxRecDepth 20000 in
theorem tb1097 : (Jvm.Cond.constant "WhoIsThereModel" (224 : Nat) (65535 : Int32)) ∈ xa_G := List.mem_filter.mpr ⟨List.mem_append_right _ (xa_t5 137 rfl), rfl⟩
set_option maxRecDepth 20000 in
theorem tb1098 : (Jvm.Cond.methodLink "WhoIsThereLaw" (70 : Nat) ({ cls := "WhoIsThereModel", name := "lose", desc := "(II)Z" } : Jvm.MethodName)) ∈ xa_G := List.mem_filter.mpr ⟨List.mem_append_right _ (xa_t5 138 rfl), rfl⟩
set_option maxRecDepth 20000 in
theorem tb1099 : (Jvm.Cond.instanceMethod ({ cls := "WhoIsThereModel", name := "lose", desc := "(II)Z" } : Jvm.MethodName)) ∈ xa_G := List.mem_filter.mpr ⟨List.mem_append_right _ (xa_t5 139 rfl), rfl⟩
set_option maxRecDepth 20000 in
theorem tb1100 : (Jvm.Cond.selects "WhoIsThereModel" ({ cls := "WhoIsThereModel", name := "lose", desc := "(II)Z" } : Jvm.MethodName) ({ cls := "WhoIsThereModel", name := "lose", desc := "(II)Z" } : Jvm.MethodName)) ∈ xa_G := List.mem_filter.mpr ⟨List.mem_append_right _ (xa_t5 140 rfl), rfl⟩
set_option maxRecDepth 20000 in
theorem tb1101 : (Jvm.Cond.code ({ cls := "WhoIsThereModel", name := "lose", desc := "(II)Z" } : Jvm.MethodName) prog_10_method_29_code (3 : Nat) (Option.some FieldType.boolean)) ∈ xa_G := List.mem_filter.mpr ⟨List.mem_append_right _ (xa_t5 141 rfl), rfl⟩
set_option maxRecDepth 20000 in
theorem tb1102 : (Jvm.Cond.methodLink "WhoIsThereLaw" (74 : Nat) ({ cls := "WhoIsThereModel", name := "deaf", desc := "(II)Z" } : Jvm.MethodName)) ∈ xa_G := List.mem_filter.mpr ⟨List.mem_append_right _ (xa_t5 142 rfl), rfl⟩
set_option maxRecDepth 20000 in
theorem tb1103 : (Jvm.Cond.instanceMethod ({ cls := "WhoIsThereModel", name := "deaf", desc := "(II)Z" } : Jvm.MethodName)) ∈ xa_G := List.mem_filter.mpr ⟨List.mem_append_right _ (xa_t5 143 rfl), rfl⟩
set_option maxRecDepth 20000 in
theorem tb1104 : (Jvm.Cond.selects "WhoIsThereModel" ({ cls := "WhoIsThereModel", name := "deaf", desc := "(II)Z" } : Jvm.MethodName) ({ cls := "WhoIsThereModel", name := "deaf", desc := "(II)Z" } : Jvm.MethodName)) ∈ xa_G := List.mem_filter.mpr ⟨List.mem_append_right _ (xa_t5 144 rfl), rfl⟩
set_option maxRecDepth 20000 in
theorem tb1105 : (Jvm.Cond.code ({ cls := "WhoIsThereModel", name := "deaf", desc := "(II)Z" } : Jvm.MethodName) prog_10_method_30_code (3 : Nat) (Option.some FieldType.boolean)) ∈ xa_G := List.mem_filter.mpr ⟨List.mem_append_right _ (xa_t5 145 rfl), rfl⟩
set_option maxRecDepth 20000 in
theorem tb1106 : (Jvm.Cond.methodLink "WhoIsThereLaw" (78 : Nat) ({ cls := "WhoIsThereModel", name := "join", desc := "(II)Z" } : Jvm.MethodName)) ∈ xa_G := List.mem_filter.mpr ⟨List.mem_append_right _ (xa_t5 146 rfl), rfl⟩
set_option maxRecDepth 20000 in
theorem tb1107 : (Jvm.Cond.instanceMethod ({ cls := "WhoIsThereModel", name := "join", desc := "(II)Z" } : Jvm.MethodName)) ∈ xa_G := List.mem_filter.mpr ⟨List.mem_append_right _ (xa_t5 147 rfl), rfl⟩
set_option maxRecDepth 20000 in
theorem tb1108 : (Jvm.Cond.selects "WhoIsThereModel" ({ cls := "WhoIsThereModel", name := "join", desc := "(II)Z" } : Jvm.MethodName) ({ cls := "WhoIsThereModel", name := "join", desc := "(II)Z" } : Jvm.MethodName)) ∈ xa_G := List.mem_filter.mpr ⟨List.mem_append_right _ (xa_t5 148 rfl), rfl⟩
set_option maxRecDepth 20000 in
theorem tb1109 : (Jvm.Cond.code ({ cls := "WhoIsThereModel", name := "join", desc := "(II)Z" } : Jvm.MethodName) prog_10_method_31_code (4 : Nat) (Option.some FieldType.boolean)) ∈ xa_G := List.mem_filter.mpr ⟨List.mem_append_right _ (xa_t5 149 rfl), rfl⟩
set_option maxRecDepth 20000 in
theorem tb1110 : (Jvm.Cond.methodLink "WhoIsThereLaw" (83 : Nat) ({ cls := "WhoIsThereModel", name := "tick", desc := "(I)I" } : Jvm.MethodName)) ∈ xa_G := List.mem_filter.mpr ⟨List.mem_append_right _ (xa_t5 150 rfl), rfl⟩
set_option maxRecDepth 20000 in
theorem tb1111 : (Jvm.Cond.instanceMethod ({ cls := "WhoIsThereModel", name := "tick", desc := "(I)I" } : Jvm.MethodName)) ∈ xa_G := List.mem_filter.mpr ⟨List.mem_append_right _ (xa_t5 151 rfl), rfl⟩
set_option maxRecDepth 20000 in
theorem tb1112 : (Jvm.Cond.selects "WhoIsThereModel" ({ cls := "WhoIsThereModel", name := "tick", desc := "(I)I" } : Jvm.MethodName) ({ cls := "WhoIsThereModel", name := "tick", desc := "(I)I" } : Jvm.MethodName)) ∈ xa_G := List.mem_filter.mpr ⟨List.mem_append_right _ (xa_t5 152 rfl), rfl⟩
set_option maxRecDepth 20000 in
theorem tb1113 : (Jvm.Cond.code ({ cls := "WhoIsThereModel", name := "tick", desc := "(I)I" } : Jvm.MethodName) prog_10_method_40_code (3 : Nat) (Option.some FieldType.int)) ∈ xa_G := List.mem_filter.mpr ⟨List.mem_append_right _ (xa_t5 153 rfl), rfl⟩
set_option maxRecDepth 20000 in
theorem tb1114 : (Jvm.Cond.methodLink "WhoIsThereModel" (240 : Nat) ({ cls := "WhoIsThereModel", name := "oneTick", desc := "(I)V" } : Jvm.MethodName)) ∈ xa_G := List.mem_filter.mpr ⟨List.mem_append_right _ (xa_t5 154 rfl), rfl⟩
set_option maxRecDepth 20000 in
theorem tb1116 : (Jvm.Cond.instanceMethod ({ cls := "WhoIsThereModel", name := "oneTick", desc := "(I)V" } : Jvm.MethodName)) ∈ xa_G := List.mem_filter.mpr ⟨List.mem_append_right _ (xa_t5 156 rfl), rfl⟩
set_option maxRecDepth 20000 in
theorem tb1117 : (Jvm.Cond.code ({ cls := "WhoIsThereModel", name := "oneTick", desc := "(I)V" } : Jvm.MethodName) prog_10_method_41_code (4 : Nat) (Option.none : Option FieldType)) ∈ xa_G := List.mem_filter.mpr ⟨List.mem_append_right _ (xa_t5 157 rfl), rfl⟩
set_option maxRecDepth 20000 in
theorem tb1118 : (Jvm.Cond.methodLink "WhoIsThereModel" (243 : Nat) ({ cls := "WhoIsThereModel", name := "writesAll", desc := "(II)V" } : Jvm.MethodName)) ∈ xa_G := List.mem_filter.mpr ⟨List.mem_append_right _ (xa_t5 158 rfl), rfl⟩
set_option maxRecDepth 20000 in
theorem tb1120 : (Jvm.Cond.instanceMethod ({ cls := "WhoIsThereModel", name := "writesAll", desc := "(II)V" } : Jvm.MethodName)) ∈ xa_G := List.mem_filter.mpr ⟨List.mem_append_right _ (xa_t5 160 rfl), rfl⟩
set_option maxRecDepth 20000 in
theorem tb1121 : (Jvm.Cond.code ({ cls := "WhoIsThereModel", name := "writesAll", desc := "(II)V" } : Jvm.MethodName) prog_10_method_42_code (4 : Nat) (Option.none : Option FieldType)) ∈ xa_G := List.mem_filter.mpr ⟨List.mem_append_right _ (xa_t5 161 rfl), rfl⟩
set_option maxRecDepth 20000 in
theorem tb1122 : (Jvm.Cond.methodLink "WhoIsThereModel" (250 : Nat) ({ cls := "WhoIsThereModel", name := "byes", desc := "(I)V" } : Jvm.MethodName)) ∈ xa_G := List.mem_filter.mpr ⟨List.mem_append_right _ (xa_t5 162 rfl), rfl⟩
set_option maxRecDepth 20000 in
theorem tb1124 : (Jvm.Cond.instanceMethod ({ cls := "WhoIsThereModel", name := "byes", desc := "(I)V" } : Jvm.MethodName)) ∈ xa_G := List.mem_filter.mpr ⟨List.mem_append_right _ (xa_t5 164 rfl), rfl⟩
set_option maxRecDepth 20000 in
theorem tb1125 : (Jvm.Cond.code ({ cls := "WhoIsThereModel", name := "byes", desc := "(I)V" } : Jvm.MethodName) prog_10_method_44_code (3 : Nat) (Option.none : Option FieldType)) ∈ xa_G := List.mem_filter.mpr ⟨List.mem_append_right _ (xa_t5 165 rfl), rfl⟩
set_option maxRecDepth 20000 in
theorem tb1126 : (Jvm.Cond.methodLink "WhoIsThereModel" (253 : Nat) ({ cls := "WhoIsThereModel", name := "writes", desc := "(II)V" } : Jvm.MethodName)) ∈ xa_G := List.mem_filter.mpr ⟨List.mem_append_right _ (xa_t5 166 rfl), rfl⟩
set_option maxRecDepth 20000 in
theorem tb1128 : (Jvm.Cond.instanceMethod ({ cls := "WhoIsThereModel", name := "writes", desc := "(II)V" } : Jvm.MethodName)) ∈ xa_G := List.mem_filter.mpr ⟨List.mem_append_right _ (xa_t5 168 rfl), rfl⟩
set_option maxRecDepth 20000 in
theorem tb1129 : (Jvm.Cond.code ({ cls := "WhoIsThereModel", name := "writes", desc := "(II)V" } : Jvm.MethodName) prog_10_method_34_code (3 : Nat) (Option.none : Option FieldType)) ∈ xa_G := List.mem_filter.mpr ⟨List.mem_append_right _ (xa_t5 169 rfl), rfl⟩
set_option maxRecDepth 20000 in
theorem tb1130 : (Jvm.Cond.methodLink "WhoIsThereModel" (228 : Nat) ({ cls := "WhoIsThereModel", name := "isBare", desc := "(I)Z" } : Jvm.MethodName)) ∈ xa_G := List.mem_filter.mpr ⟨List.mem_append_right _ (xa_t5 170 rfl), rfl⟩
set_option maxRecDepth 20000 in
theorem tb1132 : (Jvm.Cond.instanceMethod ({ cls := "WhoIsThereModel", name := "isBare", desc := "(I)Z" } : Jvm.MethodName)) ∈ xa_G := List.mem_filter.mpr ⟨List.mem_append_right _ (xa_t5 172 rfl), rfl⟩
set_option maxRecDepth 20000 in
theorem tb1133 : (Jvm.Cond.code ({ cls := "WhoIsThereModel", name := "isBare", desc := "(I)Z" } : Jvm.MethodName) prog_10_method_33_code (3 : Nat) (Option.some FieldType.boolean)) ∈ xa_G := List.mem_filter.mpr ⟨List.mem_append_right _ (xa_t5 173 rfl), rfl⟩
set_option maxRecDepth 20000 in
theorem tb1134 : (Jvm.Cond.methodLink "WhoIsThereModel" (256 : Nat) ({ cls := "WhoIsThereModel", name := "takesUp", desc := "(III)V" } : Jvm.MethodName)) ∈ xa_G := List.mem_filter.mpr ⟨List.mem_append_right _ (xa_t5 174 rfl), rfl⟩
set_option maxRecDepth 20000 in
theorem tb1136 : (Jvm.Cond.instanceMethod ({ cls := "WhoIsThereModel", name := "takesUp", desc := "(III)V" } : Jvm.MethodName)) ∈ xa_G := List.mem_filter.mpr ⟨List.mem_append_right _ (xa_t5 176 rfl), rfl⟩
set_option maxRecDepth 20000 in
theorem tb1137 : (Jvm.Cond.code ({ cls := "WhoIsThereModel", name := "takesUp", desc := "(III)V" } : Jvm.MethodName) prog_10_method_46_code (8 : Nat) (Option.none : Option FieldType)) ∈ xa_G := List.mem_filter.mpr ⟨List.mem_append_right _ (xa_t5 177 rfl), rfl⟩
set_option maxRecDepth 20000 in
theorem tb1138 : (Jvm.Cond.methodLink "WhoIsThereModel" (260 : Nat) ({ cls := "WhoIsThereModel", name := "asks", desc := "(II)V" } : Jvm.MethodName)) ∈ xa_G := List.mem_filter.mpr ⟨List.mem_append_right _ (xa_t5 178 rfl), rfl⟩
set_option maxRecDepth 20000 in
theorem tb1140 : (Jvm.Cond.instanceMethod ({ cls := "WhoIsThereModel", name := "asks", desc := "(II)V" } : Jvm.MethodName)) ∈ xa_G := List.mem_filter.mpr ⟨List.mem_append_right _ (xa_t5 180 rfl), rfl⟩
set_option maxRecDepth 20000 in
theorem tb1141 : (Jvm.Cond.code ({ cls := "WhoIsThereModel", name := "asks", desc := "(II)V" } : Jvm.MethodName) prog_10_method_43_code (5 : Nat) (Option.none : Option FieldType)) ∈ xa_G := List.mem_filter.mpr ⟨List.mem_append_right _ (xa_t5 181 rfl), rfl⟩
set_option maxRecDepth 20000 in
theorem tb1142 : (Jvm.Cond.methodLink "WhoIsThereModel" (266 : Nat) ({ cls := "WhoIsThereModel", name := "knownTo", desc := "(III)I" } : Jvm.MethodName)) ∈ xa_G := List.mem_filter.mpr ⟨List.mem_append_right _ (xa_t5 182 rfl), rfl⟩
set_option maxRecDepth 20000 in
theorem tb1144 : (Jvm.Cond.instanceMethod ({ cls := "WhoIsThereModel", name := "knownTo", desc := "(III)I" } : Jvm.MethodName)) ∈ xa_G := List.mem_filter.mpr ⟨List.mem_append_right _ (xa_t5 184 rfl), rfl⟩
set_option maxRecDepth 20000 in
theorem tb1145 : (Jvm.Cond.code ({ cls := "WhoIsThereModel", name := "knownTo", desc := "(III)I" } : Jvm.MethodName) prog_10_method_37_code (7 : Nat) (Option.some FieldType.int)) ∈ xa_G := List.mem_filter.mpr ⟨List.mem_append_right _ (xa_t5 185 rfl), rfl⟩
set_option maxRecDepth 20000 in
theorem tb1146 : (Jvm.Cond.methodLink "WhoIsThereModel" (263 : Nat) ({ cls := "WhoIsThereModel", name := "tells", desc := "(II)V" } : Jvm.MethodName)) ∈ xa_G := List.mem_filter.mpr ⟨List.mem_append_right _ (xa_t5 186 rfl), rfl⟩
set_option maxRecDepth 20000 in
theorem tb1148 : (Jvm.Cond.instanceMethod ({ cls := "WhoIsThereModel", name := "tells", desc := "(II)V" } : Jvm.MethodName)) ∈ xa_G := List.mem_filter.mpr ⟨List.mem_append_right _ (xa_t5 188 rfl), rfl⟩
set_option maxRecDepth 20000 in
theorem tb1149 : (Jvm.Cond.code ({ cls := "WhoIsThereModel", name := "tells", desc := "(II)V" } : Jvm.MethodName) prog_10_method_45_code (7 : Nat) (Option.none : Option FieldType)) ∈ xa_G := List.mem_filter.mpr ⟨List.mem_append_right _ (xa_t5 189 rfl), rfl⟩
set_option maxRecDepth 20000 in
theorem tb1150 : (Jvm.Cond.methodLink "WhoIsThereModel" (270 : Nat) ({ cls := "WhoIsThereModel", name := "speaksFor", desc := "(II)Z" } : Jvm.MethodName)) ∈ xa_G := List.mem_filter.mpr ⟨List.mem_append_right _ (xa_t5 190 rfl), rfl⟩
set_option maxRecDepth 20000 in
theorem tb1152 : (Jvm.Cond.instanceMethod ({ cls := "WhoIsThereModel", name := "speaksFor", desc := "(II)Z" } : Jvm.MethodName)) ∈ xa_G := List.mem_filter.mpr ⟨List.mem_append_right _ (xa_t5 192 rfl), rfl⟩
set_option maxRecDepth 20000 in
theorem tb1153 : (Jvm.Cond.code ({ cls := "WhoIsThereModel", name := "speaksFor", desc := "(II)Z" } : Jvm.MethodName) prog_10_method_35_code (4 : Nat) (Option.some FieldType.boolean)) ∈ xa_G := List.mem_filter.mpr ⟨List.mem_append_right _ (xa_t5 193 rfl), rfl⟩
set_option maxRecDepth 20000 in
theorem tb1154 : (Jvm.Cond.methodLink "WhoIsThereModel" (247 : Nat) ({ cls := "WhoIsThereModel", name := "isHeard", desc := "(II)V" } : Jvm.MethodName)) ∈ xa_G := List.mem_filter.mpr ⟨List.mem_append_right _ (xa_t5 194 rfl), rfl⟩
set_option maxRecDepth 20000 in
theorem tb1156 : (Jvm.Cond.instanceMethod ({ cls := "WhoIsThereModel", name := "isHeard", desc := "(II)V" } : Jvm.MethodName)) ∈ xa_G := List.mem_filter.mpr ⟨List.mem_append_right _ (xa_t5 196 rfl), rfl⟩
set_option maxRecDepth 20000 in
theorem tb1157 : (Jvm.Cond.code ({ cls := "WhoIsThereModel", name := "isHeard", desc := "(II)V" } : Jvm.MethodName) prog_10_method_47_code (5 : Nat) (Option.none : Option FieldType)) ∈ xa_G := List.mem_filter.mpr ⟨List.mem_append_right _ (xa_t5 197 rfl), rfl⟩
set_option maxRecDepth 20000 in
theorem tb1158 : (Jvm.Cond.methodLink "WhoIsThereModel" (277 : Nat) ({ cls := "WhoIsThereModel", name := "carries", desc := "(II)V" } : Jvm.MethodName)) ∈ xa_G := List.mem_filter.mpr ⟨List.mem_append_right _ (xa_t5 198 rfl), rfl⟩
set_option maxRecDepth 20000 in
theorem tb1160 : (Jvm.Cond.instanceMethod ({ cls := "WhoIsThereModel", name := "carries", desc := "(II)V" } : Jvm.MethodName)) ∈ xa_G := List.mem_filter.mpr ⟨List.mem_append_right _ (xa_t5 200 rfl), rfl⟩
set_option maxRecDepth 20000 in
theorem tb1161 : (Jvm.Cond.code ({ cls := "WhoIsThereModel", name := "carries", desc := "(II)V" } : Jvm.MethodName) prog_10_method_49_code (9 : Nat) (Option.none : Option FieldType)) ∈ xa_G := List.mem_filter.mpr ⟨List.mem_append_right _ (xa_t5 201 rfl), rfl⟩
set_option maxRecDepth 20000 in
theorem tb1162 : (Jvm.Cond.methodLink "WhoIsThereModel" (283 : Nat) ({ cls := "WhoIsThereModel", name := "isCarried", desc := "(IIII)Z" } : Jvm.MethodName)) ∈ xa_G := List.mem_filter.mpr ⟨List.mem_append_right _ (xa_t5 202 rfl), rfl⟩
set_option maxRecDepth 20000 in
theorem tb1164 : (Jvm.Cond.instanceMethod ({ cls := "WhoIsThereModel", name := "isCarried", desc := "(IIII)Z" } : Jvm.MethodName)) ∈ xa_G := List.mem_filter.mpr ⟨List.mem_append_right _ (xa_t5 204 rfl), rfl⟩
set_option maxRecDepth 20000 in
theorem tb1165 : (Jvm.Cond.code ({ cls := "WhoIsThereModel", name := "isCarried", desc := "(IIII)Z" } : Jvm.MethodName) prog_10_method_48_code (5 : Nat) (Option.some FieldType.boolean)) ∈ xa_G := List.mem_filter.mpr ⟨List.mem_append_right _ (xa_t5 205 rfl), rfl⟩
set_option maxRecDepth 20000 in
theorem tb1166 : (Jvm.Cond.methodLink "WhoIsThereModel" (280 : Nat) ({ cls := "WhoIsThereModel", name := "hears", desc := "(III)V" } : Jvm.MethodName)) ∈ xa_G := List.mem_filter.mpr ⟨List.mem_append_right _ (xa_t5 206 rfl), rfl⟩
set_option maxRecDepth 20000 in
theorem tb1168 : (Jvm.Cond.instanceMethod ({ cls := "WhoIsThereModel", name := "hears", desc := "(III)V" } : Jvm.MethodName)) ∈ xa_G := List.mem_filter.mpr ⟨List.mem_append_right _ (xa_t5 208 rfl), rfl⟩
set_option maxRecDepth 20000 in
theorem tb1169 : (Jvm.Cond.code ({ cls := "WhoIsThereModel", name := "hears", desc := "(III)V" } : Jvm.MethodName) prog_10_method_50_code (5 : Nat) (Option.none : Option FieldType)) ∈ xa_G := List.mem_filter.mpr ⟨List.mem_append_right _ (xa_t5 209 rfl), rfl⟩
set_option maxRecDepth 20000 in
theorem tb1170 : (Jvm.Cond.methodLink "WhoIsThereModel" (289 : Nat) ({ cls := "WhoIsThereModel", name := "hearsAsk", desc := "(IIII)V" } : Jvm.MethodName)) ∈ xa_G := List.mem_filter.mpr ⟨List.mem_append_right _ (xa_t5 210 rfl), rfl⟩
set_option maxRecDepth 20000 in
theorem tb1172 : (Jvm.Cond.instanceMethod ({ cls := "WhoIsThereModel", name := "hearsAsk", desc := "(IIII)V" } : Jvm.MethodName)) ∈ xa_G := List.mem_filter.mpr ⟨List.mem_append_right _ (xa_t5 212 rfl), rfl⟩
set_option maxRecDepth 20000 in
theorem tb1173 : (Jvm.Cond.code ({ cls := "WhoIsThereModel", name := "hearsAsk", desc := "(IIII)V" } : Jvm.MethodName) prog_10_method_52_code (12 : Nat) (Option.none : Option FieldType)) ∈ xa_G := List.mem_filter.mpr ⟨List.mem_append_right _ (xa_t5 213 rfl), rfl⟩
set_option maxRecDepth 20000 in
theorem tb1174 : (Jvm.Cond.methodLink "WhoIsThereModel" (299 : Nat) ({ cls := "WhoIsThereModel", name := "keeperOn", desc := "(II)I" } : Jvm.MethodName)) ∈ xa_G := List.mem_filter.mpr ⟨List.mem_append_right _ (xa_t5 214 rfl), rfl⟩
set_option maxRecDepth 20000 in
theorem tb1176 : (Jvm.Cond.instanceMethod ({ cls := "WhoIsThereModel", name := "keeperOn", desc := "(II)I" } : Jvm.MethodName)) ∈ xa_G := List.mem_filter.mpr ⟨List.mem_append_right _ (xa_t5 216 rfl), rfl⟩
set_option maxRecDepth 20000 in
theorem tb1177 : (Jvm.Cond.code ({ cls := "WhoIsThereModel", name := "keeperOn", desc := "(II)I" } : Jvm.MethodName) prog_10_method_51_code (4 : Nat) (Option.some FieldType.int)) ∈ xa_G := List.mem_filter.mpr ⟨List.mem_append_right _ (xa_t5 217 rfl), rfl⟩
set_option maxRecDepth 20000 in
theorem tb1178 : (Jvm.Cond.methodLink "WhoIsThereModel" (302 : Nat) ({ cls := "WhoIsThereModel", name := "isDue", desc := "(III)V" } : Jvm.MethodName)) ∈ xa_G := List.mem_filter.mpr ⟨List.mem_append_right _ (xa_t5 218 rfl), rfl⟩
set_option maxRecDepth 20000 in
theorem tb1180 : (Jvm.Cond.instanceMethod ({ cls := "WhoIsThereModel", name := "isDue", desc := "(III)V" } : Jvm.MethodName)) ∈ xa_G := List.mem_filter.mpr ⟨List.mem_append_right _ (xa_t5 220 rfl), rfl⟩
set_option maxRecDepth 20000 in
theorem tb1181 : (Jvm.Cond.code ({ cls := "WhoIsThereModel", name := "isDue", desc := "(III)V" } : Jvm.MethodName) prog_10_method_38_code (5 : Nat) (Option.none : Option FieldType)) ∈ xa_G := List.mem_filter.mpr ⟨List.mem_append_right _ (xa_t5 221 rfl), rfl⟩
set_option maxRecDepth 20000 in
theorem tb1182 : (Jvm.Cond.methodLink "WhoIsThereModel" (293 : Nat) ({ cls := "WhoIsThereModel", name := "hearsClaim", desc := "(IIII)V" } : Jvm.MethodName)) ∈ xa_G := List.mem_filter.mpr ⟨List.mem_append_right _ (xa_t5 222 rfl), rfl⟩
set_option maxRecDepth 20000 in
theorem tb1184 : (Jvm.Cond.instanceMethod ({ cls := "WhoIsThereModel", name := "hearsClaim", desc := "(IIII)V" } : Jvm.MethodName)) ∈ xa_G := List.mem_filter.mpr ⟨List.mem_append_right _ (xa_t5 224 rfl), rfl⟩
set_option maxRecDepth 20000 in
theorem tb1185 : (Jvm.Cond.code ({ cls := "WhoIsThereModel", name := "hearsClaim", desc := "(IIII)V" } : Jvm.MethodName) prog_10_method_53_code (6 : Nat) (Option.none : Option FieldType)) ∈ xa_G := List.mem_filter.mpr ⟨List.mem_append_right _ (xa_t5 225 rfl), rfl⟩
set_option maxRecDepth 20000 in
theorem tb1186 : (Jvm.Cond.methodLink "WhoIsThereModel" (305 : Nat) ({ cls := "WhoIsThereModel", name := "isStronger", desc := "(II)Z" } : Jvm.MethodName)) ∈ xa_G := List.mem_filter.mpr ⟨List.mem_append_right _ (xa_t5 226 rfl), rfl⟩
set_option maxRecDepth 20000 in
theorem tb1188 : (Jvm.Cond.instanceMethod ({ cls := "WhoIsThereModel", name := "isStronger", desc := "(II)Z" } : Jvm.MethodName)) ∈ xa_G := List.mem_filter.mpr ⟨List.mem_append_right _ (xa_t5 228 rfl), rfl⟩
set_option maxRecDepth 20000 in
theorem tb1189 : (Jvm.Cond.code ({ cls := "WhoIsThereModel", name := "isStronger", desc := "(II)Z" } : Jvm.MethodName) prog_10_method_36_code (5 : Nat) (Option.some FieldType.boolean)) ∈ xa_G := List.mem_filter.mpr ⟨List.mem_append_right _ (xa_t5 229 rfl), rfl⟩
set_option maxRecDepth 20000 in
theorem tb1190 : (Jvm.Cond.methodLink "WhoIsThereModel" (308 : Nat) ({ cls := "WhoIsThereModel", name := "yieldsName", desc := "(I)V" } : Jvm.MethodName)) ∈ xa_G := List.mem_filter.mpr ⟨List.mem_append_right _ (xa_t5 230 rfl), rfl⟩
set_option maxRecDepth 20000 in
theorem tb1192 : (Jvm.Cond.instanceMethod ({ cls := "WhoIsThereModel", name := "yieldsName", desc := "(I)V" } : Jvm.MethodName)) ∈ xa_G := List.mem_filter.mpr ⟨List.mem_append_right _ (xa_t5 232 rfl), rfl⟩
set_option maxRecDepth 20000 in
theorem tb1193 : (Jvm.Cond.code ({ cls := "WhoIsThereModel", name := "yieldsName", desc := "(I)V" } : Jvm.MethodName) prog_10_method_39_code (6 : Nat) (Option.none : Option FieldType)) ∈ xa_G := List.mem_filter.mpr ⟨List.mem_append_right _ (xa_t5 233 rfl), rfl⟩
set_option maxRecDepth 20000 in
theorem tb1194 : (Jvm.Cond.methodLink "WhoIsThereModel" (296 : Nat) ({ cls := "WhoIsThereModel", name := "hearsTelling", desc := "(IIII)V" } : Jvm.MethodName)) ∈ xa_G := List.mem_filter.mpr ⟨List.mem_append_right _ (xa_t5 234 rfl), rfl⟩
set_option maxRecDepth 20000 in
theorem tb1196 : (Jvm.Cond.instanceMethod ({ cls := "WhoIsThereModel", name := "hearsTelling", desc := "(IIII)V" } : Jvm.MethodName)) ∈ xa_G := List.mem_filter.mpr ⟨List.mem_append_right _ (xa_t5 236 rfl), rfl⟩
set_option maxRecDepth 20000 in
theorem tb1197 : (Jvm.Cond.code ({ cls := "WhoIsThereModel", name := "hearsTelling", desc := "(IIII)V" } : Jvm.MethodName) prog_10_method_54_code (10 : Nat) (Option.none : Option FieldType)) ∈ xa_G := List.mem_filter.mpr ⟨List.mem_append_right _ (xa_t5 237 rfl), rfl⟩
set_option maxRecDepth 20000 in
theorem tb1198 : (Jvm.Cond.methodLink "WhoIsThereLaw" (87 : Nat) ({ cls := "WhoIsThereModel", name := "find", desc := "(IIII)I" } : Jvm.MethodName)) ∈ xa_G := List.mem_filter.mpr ⟨List.mem_append_right _ (xa_t5 238 rfl), rfl⟩
set_option maxRecDepth 20000 in
theorem tb1199 : (Jvm.Cond.instanceMethod ({ cls := "WhoIsThereModel", name := "find", desc := "(IIII)I" } : Jvm.MethodName)) ∈ xa_G := List.mem_filter.mpr ⟨List.mem_append_right _ (xa_t5 239 rfl), rfl⟩
set_option maxRecDepth 20000 in
theorem tb1200 : (Jvm.Cond.selects "WhoIsThereModel" ({ cls := "WhoIsThereModel", name := "find", desc := "(IIII)I" } : Jvm.MethodName) ({ cls := "WhoIsThereModel", name := "find", desc := "(IIII)I" } : Jvm.MethodName)) ∈ xa_G := List.mem_filter.mpr ⟨List.mem_append_right _ (xa_t6 0 rfl), rfl⟩
set_option maxRecDepth 20000 in
theorem tb1201 : (Jvm.Cond.code ({ cls := "WhoIsThereModel", name := "find", desc := "(IIII)I" } : Jvm.MethodName) prog_10_method_55_code (9 : Nat) (Option.some FieldType.int)) ∈ xa_G := List.mem_filter.mpr ⟨List.mem_append_right _ (xa_t6 1 rfl), rfl⟩
set_option maxRecDepth 20000 in
theorem tb1202 : (Jvm.Cond.methodLink "WhoIsThereLaw" (92 : Nat) ({ cls := "WhoIsThereModel", name := "record", desc := "(III)I" } : Jvm.MethodName)) ∈ xa_G := List.mem_filter.mpr ⟨List.mem_append_right _ (xa_t6 2 rfl), rfl⟩
set_option maxRecDepth 20000 in
theorem tb1203 : (Jvm.Cond.instanceMethod ({ cls := "WhoIsThereModel", name := "record", desc := "(III)I" } : Jvm.MethodName)) ∈ xa_G := List.mem_filter.mpr ⟨List.mem_append_right _ (xa_t6 3 rfl), rfl⟩
set_option maxRecDepth 20000 in
theorem tb1204 : (Jvm.Cond.selects "WhoIsThereModel" ({ cls := "WhoIsThereModel", name := "record", desc := "(III)I" } : Jvm.MethodName) ({ cls := "WhoIsThereModel", name := "record", desc := "(III)I" } : Jvm.MethodName)) ∈ xa_G := List.mem_filter.mpr ⟨List.mem_append_right _ (xa_t6 4 rfl), rfl⟩
set_option maxRecDepth 20000 in
theorem tb1205 : (Jvm.Cond.code ({ cls := "WhoIsThereModel", name := "record", desc := "(III)I" } : Jvm.MethodName) prog_10_method_56_code (5 : Nat) (Option.some FieldType.int)) ∈ xa_G := List.mem_filter.mpr ⟨List.mem_append_right _ (xa_t6 5 rfl), rfl⟩
set_option maxRecDepth 20000 in
theorem tb1206 : (Jvm.Cond.methodLink "WhoIsThereLaw" (97 : Nat) ({ cls := "WhoIsThereModel", name := "service", desc := "(II)I" } : Jvm.MethodName)) ∈ xa_G := List.mem_filter.mpr ⟨List.mem_append_right _ (xa_t6 6 rfl), rfl⟩
set_option maxRecDepth 20000 in
theorem tb1207 : (Jvm.Cond.instanceMethod ({ cls := "WhoIsThereModel", name := "service", desc := "(II)I" } : Jvm.MethodName)) ∈ xa_G := List.mem_filter.mpr ⟨List.mem_append_right _ (xa_t6 7 rfl), rfl⟩
set_option maxRecDepth 20000 in
theorem tb1208 : (Jvm.Cond.selects "WhoIsThereModel" ({ cls := "WhoIsThereModel", name := "service", desc := "(II)I" } : Jvm.MethodName) ({ cls := "WhoIsThereModel", name := "service", desc := "(II)I" } : Jvm.MethodName)) ∈ xa_G := List.mem_filter.mpr ⟨List.mem_append_right _ (xa_t6 8 rfl), rfl⟩
set_option maxRecDepth 20000 in
theorem tb1209 : (Jvm.Cond.code ({ cls := "WhoIsThereModel", name := "service", desc := "(II)I" } : Jvm.MethodName) prog_10_method_57_code (3 : Nat) (Option.some FieldType.int)) ∈ xa_G := List.mem_filter.mpr ⟨List.mem_append_right _ (xa_t6 9 rfl), rfl⟩
set_option maxRecDepth 20000 in
theorem tb1210 : (Jvm.Cond.methodLink "WhoIsThereLaw" (101 : Nat) ({ cls := "WhoIsThereModel", name := "look", desc := "(II)I" } : Jvm.MethodName)) ∈ xa_G := List.mem_filter.mpr ⟨List.mem_append_right _ (xa_t6 10 rfl), rfl⟩
set_option maxRecDepth 20000 in
theorem tb1211 : (Jvm.Cond.instanceMethod ({ cls := "WhoIsThereModel", name := "look", desc := "(II)I" } : Jvm.MethodName)) ∈ xa_G := List.mem_filter.mpr ⟨List.mem_append_right _ (xa_t6 11 rfl), rfl⟩
set_option maxRecDepth 20000 in
theorem tb1212 : (Jvm.Cond.selects "WhoIsThereModel" ({ cls := "WhoIsThereModel", name := "look", desc := "(II)I" } : Jvm.MethodName) ({ cls := "WhoIsThereModel", name := "look", desc := "(II)I" } : Jvm.MethodName)) ∈ xa_G := List.mem_filter.mpr ⟨List.mem_append_right _ (xa_t6 12 rfl), rfl⟩
set_option maxRecDepth 20000 in
theorem tb1213 : (Jvm.Cond.code ({ cls := "WhoIsThereModel", name := "look", desc := "(II)I" } : Jvm.MethodName) prog_10_method_58_code (5 : Nat) (Option.some FieldType.int)) ∈ xa_G := List.mem_filter.mpr ⟨List.mem_append_right _ (xa_t6 13 rfl), rfl⟩
set_option maxRecDepth 20000 in
theorem tb1214 : (Jvm.Cond.methodLink "WhoIsThereLaw" (105 : Nat) ({ cls := "WhoIsThereModel", name := "reach", desc := "(II)I" } : Jvm.MethodName)) ∈ xa_G := List.mem_filter.mpr ⟨List.mem_append_right _ (xa_t6 14 rfl), rfl⟩
set_option maxRecDepth 20000 in
theorem tb1215 : (Jvm.Cond.instanceMethod ({ cls := "WhoIsThereModel", name := "reach", desc := "(II)I" } : Jvm.MethodName)) ∈ xa_G := List.mem_filter.mpr ⟨List.mem_append_right _ (xa_t6 15 rfl), rfl⟩
set_option maxRecDepth 20000 in
theorem tb1216 : (Jvm.Cond.selects "WhoIsThereModel" ({ cls := "WhoIsThereModel", name := "reach", desc := "(II)I" } : Jvm.MethodName) ({ cls := "WhoIsThereModel", name := "reach", desc := "(II)I" } : Jvm.MethodName)) ∈ xa_G := List.mem_filter.mpr ⟨List.mem_append_right _ (xa_t6 16 rfl), rfl⟩
set_option maxRecDepth 20000 in
theorem tb1217 : (Jvm.Cond.code ({ cls := "WhoIsThereModel", name := "reach", desc := "(II)I" } : Jvm.MethodName) prog_10_method_59_code (4 : Nat) (Option.some FieldType.int)) ∈ xa_G := List.mem_filter.mpr ⟨List.mem_append_right _ (xa_t6 17 rfl), rfl⟩
set_option maxRecDepth 20000 in
theorem tb1218 : (Jvm.Cond.methodLink "WhoIsThereLaw" (109 : Nat) ({ cls := "WhoIsThereModel", name := "twice", desc := "(I)I" } : Jvm.MethodName)) ∈ xa_G := List.mem_filter.mpr ⟨List.mem_append_right _ (xa_t6 18 rfl), rfl⟩
set_option maxRecDepth 20000 in
theorem tb1219 : (Jvm.Cond.instanceMethod ({ cls := "WhoIsThereModel", name := "twice", desc := "(I)I" } : Jvm.MethodName)) ∈ xa_G := List.mem_filter.mpr ⟨List.mem_append_right _ (xa_t6 19 rfl), rfl⟩
set_option maxRecDepth 20000 in
theorem tb1220 : (Jvm.Cond.selects "WhoIsThereModel" ({ cls := "WhoIsThereModel", name := "twice", desc := "(I)I" } : Jvm.MethodName) ({ cls := "WhoIsThereModel", name := "twice", desc := "(I)I" } : Jvm.MethodName)) ∈ xa_G := List.mem_filter.mpr ⟨List.mem_append_right _ (xa_t6 20 rfl), rfl⟩
set_option maxRecDepth 20000 in
theorem tb1221 : (Jvm.Cond.code ({ cls := "WhoIsThereModel", name := "twice", desc := "(I)I" } : Jvm.MethodName) prog_10_method_61_code (5 : Nat) (Option.some FieldType.int)) ∈ xa_G := List.mem_filter.mpr ⟨List.mem_append_right _ (xa_t6 21 rfl), rfl⟩
set_option maxRecDepth 20000 in
theorem tb1222 : (Jvm.Cond.methodLink "WhoIsThereModel" (317 : Nat) ({ cls := "WhoIsThereModel", name := "isSpoken", desc := "(II)Z" } : Jvm.MethodName)) ∈ xa_G := List.mem_filter.mpr ⟨List.mem_append_right _ (xa_t6 22 rfl), rfl⟩
set_option maxRecDepth 20000 in
theorem tb1224 : (Jvm.Cond.instanceMethod ({ cls := "WhoIsThereModel", name := "isSpoken", desc := "(II)Z" } : Jvm.MethodName)) ∈ xa_G := List.mem_filter.mpr ⟨List.mem_append_right _ (xa_t6 24 rfl), rfl⟩
set_option maxRecDepth 20000 in
theorem tb1225 : (Jvm.Cond.code ({ cls := "WhoIsThereModel", name := "isSpoken", desc := "(II)Z" } : Jvm.MethodName) prog_10_method_60_code (4 : Nat) (Option.some FieldType.boolean)) ∈ xa_G := List.mem_filter.mpr ⟨List.mem_append_right _ (xa_t6 25 rfl), rfl⟩
set_option maxRecDepth 20000 in
theorem tb1226 : (Jvm.Cond.methodLink "WhoIsThereLaw" (113 : Nat) ({ cls := "WhoIsThereModel", name := "count", desc := "(I)I" } : Jvm.MethodName)) ∈ xa_G := List.mem_filter.mpr ⟨List.mem_append_right _ (xa_t6 26 rfl), rfl⟩
set_option maxRecDepth 20000 in
theorem tb1227 : (Jvm.Cond.instanceMethod ({ cls := "WhoIsThereModel", name := "count", desc := "(I)I" } : Jvm.MethodName)) ∈ xa_G := List.mem_filter.mpr ⟨List.mem_append_right _ (xa_t6 27 rfl), rfl⟩
set_option maxRecDepth 20000 in
theorem tb1228 : (Jvm.Cond.selects "WhoIsThereModel" ({ cls := "WhoIsThereModel", name := "count", desc := "(I)I" } : Jvm.MethodName) ({ cls := "WhoIsThereModel", name := "count", desc := "(I)I" } : Jvm.MethodName)) ∈ xa_G := List.mem_filter.mpr ⟨List.mem_append_right _ (xa_t6 28 rfl), rfl⟩
set_option maxRecDepth 20000 in
theorem tb1229 : (Jvm.Cond.code ({ cls := "WhoIsThereModel", name := "count", desc := "(I)I" } : Jvm.MethodName) prog_10_method_62_code (2 : Nat) (Option.some FieldType.int)) ∈ xa_G := List.mem_filter.mpr ⟨List.mem_append_right _ (xa_t6 29 rfl), rfl⟩
set_option maxRecDepth 20000 in
theorem lfX7_11 : xa_FL RX7 11 7 0 := ⟨_, _, _, rfl, rfl, inX7, by decide, tb23⟩
set_option maxRecDepth 20000 in
theorem lpX7_11 : xa_FF RX7 11 7 0 (.array (.object "WhoIsThere$Host")) := ⟨_, _, _, tyX7, rfl, rfl, inX7, by decide, tb23, tyX7_ok, nmX7, rfl, rfl, by decide +kernel⟩
set_option maxRecDepth 20000 in
theorem lfX7_17 : xa_FL RX7 17 7 1 := ⟨_, _, _, rfl, rfl, inX7, by decide, tb24⟩
set_option maxRecDepth 20000 in
theorem lpX7_17 : xa_FF RX7 17 7 1 (.array (.object "WhoIsThere$Service")) := ⟨_, _, _, tyX7, rfl, rfl, inX7, by decide, tb24, tyX7_ok, nmX7, rfl, rfl, by decide +kernel⟩
set_option maxRecDepth 20000 in
theorem lfX7_25 : xa_FL RX7 25 7 2 := ⟨_, _, _, rfl, rfl, inX7, by decide, tb25⟩
set_option maxRecDepth 20000 in
theorem lpX7_25 : xa_FP RX7 25 7 2 .int := ⟨_, _, _, tyX7, rfl, rfl, inX7, by decide, tb25, tyX7_ok, nmX7, rfl, by decide +kernel⟩
set_option maxRecDepth 20000 in
theorem lfX7_32 : xa_FL RX7 32 3 0 := ⟨_, _, _, rfl, rfl, inX3, by decide, tb195⟩
set_option maxRecDepth 20000 in
theorem lfX7_56 : xa_FL RX7 56 5 6 := ⟨_, _, _, rfl, rfl, inX5, by decide, tb311⟩
set_option maxRecDepth 20000 in
theorem lpX7_56 : xa_FP RX7 56 5 6 .int := ⟨_, _, _, tyX5, rfl, rfl, inX5, by decide, tb311, tyX5_ok, nmX5, rfl, by decide +kernel⟩
set_option maxRecDepth 20000 in
theorem lfX7_59 : xa_FL RX7 59 5 7 := ⟨_, _, _, rfl, rfl, inX5, by decide, tb313⟩
set_option maxRecDepth 20000 in
theorem lpX7_59 : xa_FP RX7 59 5 7 .int := ⟨_, _, _, tyX5, rfl, rfl, inX5, by decide, tb313, tyX5_ok, nmX5, rfl, by decide +kernel⟩
set_option maxRecDepth 20000 in
theorem lfX7_62 : xa_FL RX7 62 7 4 := ⟨_, _, _, rfl, rfl, inX7, by decide, tb27⟩
set_option maxRecDepth 20000 in
theorem lpX7_62 : xa_FP RX7 62 7 4 .int := ⟨_, _, _, tyX7, rfl, rfl, inX7, by decide, tb27, tyX7_ok, nmX7, rfl, by decide +kernel⟩
set_option maxRecDepth 20000 in
theorem lfX7_65 : xa_FL RX7 65 5 9 := ⟨_, _, _, rfl, rfl, inX5, by decide, tb317⟩
set_option maxRecDepth 20000 in
theorem lpX7_65 : xa_FP RX7 65 5 9 .int := ⟨_, _, _, tyX5, rfl, rfl, inX5, by decide, tb317, tyX5_ok, nmX5, rfl, by decide +kernel⟩
set_option maxRecDepth 20000 in
theorem lfX7_71 : xa_FL RX7 71 3 5 := ⟨_, _, _, rfl, rfl, inX3, by decide, tb205⟩
set_option maxRecDepth 20000 in
theorem lfX7_88 : xa_FL RX7 88 3 7 := ⟨_, _, _, rfl, rfl, inX3, by decide, tb209⟩
set_option maxRecDepth 20000 in
theorem lpX7_88 : xa_FP RX7 88 3 7 .int := ⟨_, _, _, tyX3, rfl, rfl, inX3, by decide, tb209, tyX3_ok, nmX3, rfl, by decide +kernel⟩
set_option maxRecDepth 20000 in
theorem lfX7_91 : xa_FL RX7 91 3 9 := ⟨_, _, _, rfl, rfl, inX3, by decide, tb213⟩
set_option maxRecDepth 20000 in
theorem lpX7_91 : xa_FP RX7 91 3 9 .boolean := ⟨_, _, _, tyX3, rfl, rfl, inX3, by decide, tb213, tyX3_ok, nmX3, rfl, by decide +kernel⟩
set_option maxRecDepth 20000 in
theorem lfX7_95 : xa_FL RX7 95 3 8 := ⟨_, _, _, rfl, rfl, inX3, by decide, tb211⟩
set_option maxRecDepth 20000 in
theorem lpX7_95 : xa_FP RX7 95 3 8 .int := ⟨_, _, _, tyX3, rfl, rfl, inX3, by decide, tb211, tyX3_ok, nmX3, rfl, by decide +kernel⟩
set_option maxRecDepth 20000 in
theorem lfX7_96 : xa_FL RX7 96 3 10 := ⟨_, _, _, rfl, rfl, inX3, by decide, tb214⟩
set_option maxRecDepth 20000 in
theorem lpX7_96 : xa_FP RX7 96 3 10 (.object "WhoIsThere$Host") := ⟨_, _, _, tyX3, rfl, rfl, inX3, by decide, tb214, tyX3_ok, nmX3, rfl, by decide +kernel⟩
set_option maxRecDepth 20000 in
theorem lfX7_103 : xa_FL RX7 103 7 3 := ⟨_, _, _, rfl, rfl, inX7, by decide, tb26⟩
set_option maxRecDepth 20000 in
theorem lpX7_103 : xa_FP RX7 103 7 3 .int := ⟨_, _, _, tyX7, rfl, rfl, inX7, by decide, tb26, tyX7_ok, nmX7, rfl, by decide +kernel⟩
set_option maxRecDepth 20000 in
theorem lfX7_106 : xa_FL RX7 106 5 1 := ⟨_, _, _, rfl, rfl, inX5, by decide, tb301⟩
set_option maxRecDepth 20000 in
theorem lfX7_109 : xa_FL RX7 109 5 10 := ⟨_, _, _, rfl, rfl, inX5, by decide, tb319⟩
set_option maxRecDepth 20000 in
theorem lpX7_109 : xa_FP RX7 109 5 10 .boolean := ⟨_, _, _, tyX5, rfl, rfl, inX5, by decide, tb319, tyX5_ok, nmX5, rfl, by decide +kernel⟩
set_option maxRecDepth 20000 in
theorem lfX7_134 : xa_FL RX7 134 3 4 := ⟨_, _, _, rfl, rfl, inX3, by decide, tb203⟩
set_option maxRecDepth 20000 in
theorem lfX7_143 : xa_FL RX7 143 3 6 := ⟨_, _, _, rfl, rfl, inX3, by decide, tb207⟩
set_option maxRecDepth 20000 in
theorem lfX7_155 : xa_FL RX7 155 3 11 := ⟨_, _, _, rfl, rfl, inX3, by decide, tb216⟩
set_option maxRecDepth 20000 in
theorem lpX7_155 : xa_FP RX7 155 3 11 (.object "WhoIsThere$Bridge") := ⟨_, _, _, tyX3, rfl, rfl, inX3, by decide, tb216, tyX3_ok, nmX3, rfl, by decide +kernel⟩
set_option maxRecDepth 20000 in
theorem lfX7_159 : xa_FL RX7 159 3 12 := ⟨_, _, _, rfl, rfl, inX3, by decide, tb217⟩
set_option maxRecDepth 20000 in
theorem lpX7_159 : xa_FP RX7 159 3 12 .int := ⟨_, _, _, tyX3, rfl, rfl, inX3, by decide, tb217, tyX3_ok, nmX3, rfl, by decide +kernel⟩
set_option maxRecDepth 20000 in
theorem lfX7_162 : xa_FL RX7 162 3 13 := ⟨_, _, _, rfl, rfl, inX3, by decide, tb218⟩
set_option maxRecDepth 20000 in
theorem lpX7_162 : xa_FP RX7 162 3 13 .int := ⟨_, _, _, tyX3, rfl, rfl, inX3, by decide, tb218, tyX3_ok, nmX3, rfl, by decide +kernel⟩
set_option maxRecDepth 20000 in
theorem lfX7_184 : xa_FL RX7 184 6 0 := ⟨_, _, _, rfl, rfl, inX6, by decide, tb82⟩
set_option maxRecDepth 20000 in
theorem lfX7_192 : xa_FL RX7 192 6 1 := ⟨_, _, _, rfl, rfl, inX6, by decide, tb84⟩
set_option maxRecDepth 20000 in
theorem lfX7_198 : xa_FL RX7 198 6 2 := ⟨_, _, _, rfl, rfl, inX6, by decide, tb86⟩
set_option maxRecDepth 20000 in
theorem lfX7_201 : xa_FL RX7 201 5 5 := ⟨_, _, _, rfl, rfl, inX5, by decide, tb309⟩
set_option maxRecDepth 20000 in
theorem lpX7_201 : xa_FP RX7 201 5 5 .int := ⟨_, _, _, tyX5, rfl, rfl, inX5, by decide, tb309, tyX5_ok, nmX5, rfl, by decide +kernel⟩
set_option maxRecDepth 20000 in
theorem lfX7_203 : xa_FL RX7 203 5 8 := ⟨_, _, _, rfl, rfl, inX5, by decide, tb315⟩
set_option maxRecDepth 20000 in
theorem lpX7_203 : xa_FP RX7 203 5 8 .int := ⟨_, _, _, tyX5, rfl, rfl, inX5, by decide, tb315, tyX5_ok, nmX5, rfl, by decide +kernel⟩
set_option maxRecDepth 20000 in
theorem lfX7_206 : xa_FL RX7 206 5 11 := ⟨_, _, _, rfl, rfl, inX5, by decide, tb321⟩
set_option maxRecDepth 20000 in
theorem lpX7_206 : xa_FP RX7 206 5 11 .int := ⟨_, _, _, tyX5, rfl, rfl, inX5, by decide, tb321, tyX5_ok, nmX5, rfl, by decide +kernel⟩
set_option maxRecDepth 20000 in
theorem lfX7_209 : xa_FL RX7 209 2 1 := ⟨_, _, _, rfl, rfl, inX2, by decide, tb464⟩
set_option maxRecDepth 20000 in
theorem lpX7_209 : xa_FP RX7 209 2 1 .int := ⟨_, _, _, tyX2, rfl, rfl, inX2, by decide, tb464, tyX2_ok, nmX2, rfl, by decide +kernel⟩
set_option maxRecDepth 20000 in
theorem lfX7_213 : xa_FL RX7 213 3 14 := ⟨_, _, _, rfl, rfl, inX3, by decide, tb219⟩
set_option maxRecDepth 20000 in
theorem lpX7_213 : xa_FP RX7 213 3 14 .int := ⟨_, _, _, tyX3, rfl, rfl, inX3, by decide, tb219, tyX3_ok, nmX3, rfl, by decide +kernel⟩
set_option maxRecDepth 20000 in
theorem lfX7_226 : xa_FL RX7 226 7 5 := ⟨_, _, _, rfl, rfl, inX7, by decide, tb28⟩
set_option maxRecDepth 20000 in
theorem lpX7_226 : xa_FP RX7 226 7 5 .int := ⟨_, _, _, tyX7, rfl, rfl, inX7, by decide, tb28, tyX7_ok, nmX7, rfl, by decide +kernel⟩
set_option maxRecDepth 20000 in
theorem lfX7_229 : xa_FL RX7 229 7 7 := ⟨_, _, _, rfl, rfl, inX7, by decide, tb30⟩
set_option maxRecDepth 20000 in
theorem lpX7_229 : xa_FP RX7 229 7 7 .int := ⟨_, _, _, tyX7, rfl, rfl, inX7, by decide, tb30, tyX7_ok, nmX7, rfl, by decide +kernel⟩
set_option maxRecDepth 20000 in
theorem lfX7_232 : xa_FL RX7 232 7 8 := ⟨_, _, _, rfl, rfl, inX7, by decide, tb31⟩
set_option maxRecDepth 20000 in
theorem lpX7_232 : xa_FP RX7 232 7 8 .int := ⟨_, _, _, tyX7, rfl, rfl, inX7, by decide, tb31, tyX7_ok, nmX7, rfl, by decide +kernel⟩
set_option maxRecDepth 20000 in
theorem lfX7_235 : xa_FL RX7 235 7 9 := ⟨_, _, _, rfl, rfl, inX7, by decide, tb32⟩
set_option maxRecDepth 20000 in
theorem lpX7_235 : xa_FP RX7 235 7 9 .int := ⟨_, _, _, tyX7, rfl, rfl, inX7, by decide, tb32, tyX7_ok, nmX7, rfl, by decide +kernel⟩
set_option maxRecDepth 20000 in
theorem lfX7_238 : xa_FL RX7 238 7 10 := ⟨_, _, _, rfl, rfl, inX7, by decide, tb33⟩
set_option maxRecDepth 20000 in
theorem lpX7_238 : xa_FP RX7 238 7 10 .int := ⟨_, _, _, tyX7, rfl, rfl, inX7, by decide, tb33, tyX7_ok, nmX7, rfl, by decide +kernel⟩
set_option maxRecDepth 20000 in
theorem lfX7_241 : xa_FL RX7 241 7 11 := ⟨_, _, _, rfl, rfl, inX7, by decide, tb34⟩
set_option maxRecDepth 20000 in
theorem lpX7_241 : xa_FP RX7 241 7 11 .int := ⟨_, _, _, tyX7, rfl, rfl, inX7, by decide, tb34, tyX7_ok, nmX7, rfl, by decide +kernel⟩
set_option maxRecDepth 20000 in
theorem lfX7_244 : xa_FL RX7 244 7 6 := ⟨_, _, _, rfl, rfl, inX7, by decide, tb29⟩
set_option maxRecDepth 20000 in
theorem lpX7_244 : xa_FP RX7 244 7 6 .int := ⟨_, _, _, tyX7, rfl, rfl, inX7, by decide, tb29, tyX7_ok, nmX7, rfl, by decide +kernel⟩
set_option maxRecDepth 20000 in
theorem lfX7_247 : xa_FL RX7 247 7 12 := ⟨_, _, _, rfl, rfl, inX7, by decide, tb35⟩
set_option maxRecDepth 20000 in
theorem lpX7_247 : xa_FP RX7 247 7 12 .int := ⟨_, _, _, tyX7, rfl, rfl, inX7, by decide, tb35, tyX7_ok, nmX7, rfl, by decide +kernel⟩
set_option maxRecDepth 20000 in
theorem lfX7_264 : xa_FL RX7 264 5 0 := ⟨_, _, _, rfl, rfl, inX5, by decide, tb299⟩
set_option maxRecDepth 20000 in
theorem lfX7_265 : xa_FL RX7 265 5 4 := ⟨_, _, _, rfl, rfl, inX5, by decide, tb307⟩
set_option maxRecDepth 20000 in
theorem lfX7_268 : xa_FL RX7 268 5 2 := ⟨_, _, _, rfl, rfl, inX5, by decide, tb303⟩
set_option maxRecDepth 20000 in
theorem lfX7_271 : xa_FL RX7 271 3 3 := ⟨_, _, _, rfl, rfl, inX3, by decide, tb201⟩
set_option maxRecDepth 20000 in
theorem lfX7_280 : xa_FL RX7 280 3 15 := ⟨_, _, _, rfl, rfl, inX3, by decide, tb221⟩
set_option maxRecDepth 20000 in
theorem lpX7_280 : xa_FP RX7 280 3 15 (.object "WhoIsThere$Letter") := ⟨_, _, _, tyX3, rfl, rfl, inX3, by decide, tb221, tyX3_ok, nmX3, rfl, by decide +kernel⟩
set_option maxRecDepth 20000 in
theorem lfX7_305 : xa_FL RX7 305 1 0 := ⟨_, _, _, rfl, rfl, inX1, by decide, tb108⟩
set_option maxRecDepth 20000 in
theorem lfX7_335 : xa_FL RX7 335 5 3 := ⟨_, _, _, rfl, rfl, inX5, by decide, tb305⟩
set_option maxRecDepth 20000 in
theorem lfX7_340 : xa_FL RX7 340 2 3 := ⟨_, _, _, rfl, rfl, inX2, by decide, tb469⟩
set_option maxRecDepth 20000 in
theorem lpX7_340 : xa_FP RX7 340 2 3 (.object "WhoIsThere$Letter") := ⟨_, _, _, tyX2, rfl, rfl, inX2, by decide, tb469, tyX2_ok, nmX2, rfl, by decide +kernel⟩
set_option maxRecDepth 20000 in
theorem lfX7_343 : xa_FL RX7 343 2 2 := ⟨_, _, _, rfl, rfl, inX2, by decide, tb467⟩
set_option maxRecDepth 20000 in
theorem lpX7_343 : xa_FP RX7 343 2 2 (.object "WhoIsThere$Letter") := ⟨_, _, _, tyX2, rfl, rfl, inX2, by decide, tb467, tyX2_ok, nmX2, rfl, by decide +kernel⟩
set_option maxRecDepth 20000 in
theorem lfX7_344 : xa_FL RX7 344 2 4 := ⟨_, _, _, rfl, rfl, inX2, by decide, tb471⟩
set_option maxRecDepth 20000 in
theorem lpX7_344 : xa_FP RX7 344 2 4 (.object "WhoIsThere$Letter") := ⟨_, _, _, tyX2, rfl, rfl, inX2, by decide, tb471, tyX2_ok, nmX2, rfl, by decide +kernel⟩
set_option maxRecDepth 20000 in
theorem lfX7_348 : xa_FL RX7 348 4 0 := ⟨_, _, _, rfl, rfl, inX4, by decide, tb138⟩
set_option maxRecDepth 20000 in
theorem lpX7_348 : xa_FP RX7 348 4 0 .int := ⟨_, _, _, tyX4, rfl, rfl, inX4, by decide, tb138, tyX4_ok, nmX4, rfl, by decide +kernel⟩
set_option maxRecDepth 20000 in
theorem lfX7_365 : xa_FL RX7 365 4 5 := ⟨_, _, _, rfl, rfl, inX4, by decide, tb147⟩
set_option maxRecDepth 20000 in
theorem lpX7_365 : xa_FP RX7 365 4 5 .int := ⟨_, _, _, tyX4, rfl, rfl, inX4, by decide, tb147, tyX4_ok, nmX4, rfl, by decide +kernel⟩
set_option maxRecDepth 20000 in
theorem lfX7_366 : xa_FL RX7 366 4 8 := ⟨_, _, _, rfl, rfl, inX4, by decide, tb152⟩
set_option maxRecDepth 20000 in
theorem lpX7_366 : xa_FP RX7 366 4 8 .int := ⟨_, _, _, tyX4, rfl, rfl, inX4, by decide, tb152, tyX4_ok, nmX4, rfl, by decide +kernel⟩
set_option maxRecDepth 20000 in
theorem lfX7_369 : xa_FL RX7 369 4 10 := ⟨_, _, _, rfl, rfl, inX4, by decide, tb155⟩
set_option maxRecDepth 20000 in
theorem lpX7_369 : xa_FP RX7 369 4 10 .int := ⟨_, _, _, tyX4, rfl, rfl, inX4, by decide, tb155, tyX4_ok, nmX4, rfl, by decide +kernel⟩
set_option maxRecDepth 20000 in
theorem lfX7_372 : xa_FL RX7 372 4 1 := ⟨_, _, _, rfl, rfl, inX4, by decide, tb140⟩
set_option maxRecDepth 20000 in
theorem lpX7_372 : xa_FP RX7 372 4 1 .int := ⟨_, _, _, tyX4, rfl, rfl, inX4, by decide, tb140, tyX4_ok, nmX4, rfl, by decide +kernel⟩
set_option maxRecDepth 20000 in
theorem lfX7_403 : xa_FL RX7 403 4 6 := ⟨_, _, _, rfl, rfl, inX4, by decide, tb149⟩
set_option maxRecDepth 20000 in
theorem lfX7_420 : xa_FL RX7 420 4 2 := ⟨_, _, _, rfl, rfl, inX4, by decide, tb142⟩
set_option maxRecDepth 20000 in
theorem lfX7_423 : xa_FL RX7 423 4 3 := ⟨_, _, _, rfl, rfl, inX4, by decide, tb144⟩
set_option maxRecDepth 20000 in
theorem lfX7_440 : xa_FL RX7 440 4 11 := ⟨_, _, _, rfl, rfl, inX4, by decide, tb157⟩
set_option maxRecDepth 20000 in
theorem lfX7_443 : xa_FL RX7 443 4 13 := ⟨_, _, _, rfl, rfl, inX4, by decide, tb161⟩
set_option maxRecDepth 20000 in
theorem lfX7_455 : xa_FL RX7 455 4 12 := ⟨_, _, _, rfl, rfl, inX4, by decide, tb159⟩
set_option maxRecDepth 20000 in
theorem lfX7_464 : xa_FL RX7 464 3 1 := ⟨_, _, _, rfl, rfl, inX3, by decide, tb197⟩
set_option maxRecDepth 20000 in
theorem lfX7_467 : xa_FL RX7 467 3 2 := ⟨_, _, _, rfl, rfl, inX3, by decide, tb199⟩
set_option maxRecDepth 20000 in
theorem lfX0_9 : xa_FL RX0 9 0 0 := ⟨_, _, _, rfl, rfl, inX0, by decide, tb124⟩
set_option maxRecDepth 20000 in
theorem lpX0_9 : xa_FF RX0 9 0 0 (.array .int) := ⟨_, _, _, tyX0, rfl, rfl, inX0, by decide, tb124, tyX0_ok, nmX0, rfl, rfl, by decide +kernel⟩
set_option maxRecDepth 20000 in
theorem lfX0_15 : xa_FL RX0 15 0 1 := ⟨_, _, _, rfl, rfl, inX0, by decide, tb125⟩
set_option maxRecDepth 20000 in
theorem lpX0_15 : xa_FP RX0 15 0 1 .int := ⟨_, _, _, tyX0, rfl, rfl, inX0, by decide, tb125, tyX0_ok, nmX0, rfl, by decide +kernel⟩
set_option maxRecDepth 20000 in
theorem lfX1_9 : xa_FL RX1 9 1 0 := ⟨_, _, _, rfl, rfl, inX1, by decide, tb107⟩
set_option maxRecDepth 20000 in
theorem lpX1_9 : xa_FF RX1 9 1 0 (.array .int) := ⟨_, _, _, tyX1, rfl, rfl, inX1, by decide, tb107, tyX1_ok, nmX1, rfl, rfl, by decide +kernel⟩
set_option maxRecDepth 20000 in
theorem lfX1_15 : xa_FL RX1 15 1 1 := ⟨_, _, _, rfl, rfl, inX1, by decide, tb109⟩
set_option maxRecDepth 20000 in
theorem lpX1_15 : xa_FF RX1 15 1 1 (.array .int) := ⟨_, _, _, tyX1, rfl, rfl, inX1, by decide, tb109, tyX1_ok, nmX1, rfl, rfl, by decide +kernel⟩
set_option maxRecDepth 20000 in
theorem lfX1_18 : xa_FL RX1 18 1 2 := ⟨_, _, _, rfl, rfl, inX1, by decide, tb110⟩
set_option maxRecDepth 20000 in
theorem lpX1_18 : xa_FP RX1 18 1 2 .int := ⟨_, _, _, tyX1, rfl, rfl, inX1, by decide, tb110, tyX1_ok, nmX1, rfl, by decide +kernel⟩
set_option maxRecDepth 20000 in
theorem lfX2_10 : xa_FL RX2 10 2 2 := ⟨_, _, _, rfl, rfl, inX2, by decide, tb465⟩
set_option maxRecDepth 20000 in
theorem lpX2_10 : xa_FP RX2 10 2 2 (.object "WhoIsThere$Letter") := ⟨_, _, _, tyX2, rfl, rfl, inX2, by decide, tb465, tyX2_ok, nmX2, rfl, by decide +kernel⟩
set_option maxRecDepth 20000 in
theorem lfX2_16 : xa_FL RX2 16 2 3 := ⟨_, _, _, rfl, rfl, inX2, by decide, tb468⟩
set_option maxRecDepth 20000 in
theorem lpX2_16 : xa_FP RX2 16 2 3 (.object "WhoIsThere$Letter") := ⟨_, _, _, tyX2, rfl, rfl, inX2, by decide, tb468, tyX2_ok, nmX2, rfl, by decide +kernel⟩
set_option maxRecDepth 20000 in
theorem lfX2_19 : xa_FL RX2 19 2 4 := ⟨_, _, _, rfl, rfl, inX2, by decide, tb470⟩
set_option maxRecDepth 20000 in
theorem lpX2_19 : xa_FP RX2 19 2 4 (.object "WhoIsThere$Letter") := ⟨_, _, _, tyX2, rfl, rfl, inX2, by decide, tb470, tyX2_ok, nmX2, rfl, by decide +kernel⟩
set_option maxRecDepth 20000 in
theorem lfX2_22 : xa_FL RX2 22 2 1 := ⟨_, _, _, rfl, rfl, inX2, by decide, tb462⟩
set_option maxRecDepth 20000 in
theorem lpX2_22 : xa_FP RX2 22 2 1 .int := ⟨_, _, _, tyX2, rfl, rfl, inX2, by decide, tb462, tyX2_ok, nmX2, rfl, by decide +kernel⟩
set_option maxRecDepth 20000 in
theorem lfX2_26 : xa_FL RX2 26 2 0 := ⟨_, _, _, rfl, rfl, inX2, by decide, tb461⟩
set_option maxRecDepth 20000 in
theorem lpX2_26 : xa_FF RX2 26 2 0 .int := ⟨_, _, _, tyX2, rfl, rfl, inX2, by decide, tb461, tyX2_ok, nmX2, rfl, rfl, by decide +kernel⟩
set_option maxRecDepth 20000 in
theorem lfX3_12 : xa_FL RX3 12 3 4 := ⟨_, _, _, rfl, rfl, inX3, by decide, tb202⟩
set_option maxRecDepth 20000 in
theorem lpX3_12 : xa_FF RX3 12 3 4 (.object "WhoIsThere$Store") := ⟨_, _, _, tyX3, rfl, rfl, inX3, by decide, tb202, tyX3_ok, nmX3, rfl, rfl, by decide +kernel⟩
set_option maxRecDepth 20000 in
theorem lfX3_21 : xa_FL RX3 21 3 5 := ⟨_, _, _, rfl, rfl, inX3, by decide, tb204⟩
set_option maxRecDepth 20000 in
theorem lpX3_21 : xa_FF RX3 21 3 5 (.object "WhoIsThere$Asks") := ⟨_, _, _, tyX3, rfl, rfl, inX3, by decide, tb204, tyX3_ok, nmX3, rfl, rfl, by decide +kernel⟩
set_option maxRecDepth 20000 in
theorem lfX3_28 : xa_FL RX3 28 3 6 := ⟨_, _, _, rfl, rfl, inX3, by decide, tb206⟩
set_option maxRecDepth 20000 in
theorem lpX3_28 : xa_FF RX3 28 3 6 (.object "WhoIsThere$Answers") := ⟨_, _, _, tyX3, rfl, rfl, inX3, by decide, tb206, tyX3_ok, nmX3, rfl, rfl, by decide +kernel⟩
set_option maxRecDepth 20000 in
theorem lfX3_32 : xa_FL RX3 32 3 8 := ⟨_, _, _, rfl, rfl, inX3, by decide, tb210⟩
set_option maxRecDepth 20000 in
theorem lpX3_32 : xa_FP RX3 32 3 8 .int := ⟨_, _, _, tyX3, rfl, rfl, inX3, by decide, tb210, tyX3_ok, nmX3, rfl, by decide +kernel⟩
set_option maxRecDepth 20000 in
theorem lfX3_39 : xa_FL RX3 39 3 15 := ⟨_, _, _, rfl, rfl, inX3, by decide, tb220⟩
set_option maxRecDepth 20000 in
theorem lpX3_39 : xa_FP RX3 39 3 15 (.object "WhoIsThere$Letter") := ⟨_, _, _, tyX3, rfl, rfl, inX3, by decide, tb220, tyX3_ok, nmX3, rfl, by decide +kernel⟩
set_option maxRecDepth 20000 in
theorem lfX3_43 : xa_FL RX3 43 3 0 := ⟨_, _, _, rfl, rfl, inX3, by decide, tb194⟩
set_option maxRecDepth 20000 in
theorem lpX3_43 : xa_FF RX3 43 3 0 .int := ⟨_, _, _, tyX3, rfl, rfl, inX3, by decide, tb194, tyX3_ok, nmX3, rfl, rfl, by decide +kernel⟩
set_option maxRecDepth 20000 in
theorem lfX3_46 : xa_FL RX3 46 3 7 := ⟨_, _, _, rfl, rfl, inX3, by decide, tb208⟩
set_option maxRecDepth 20000 in
theorem lpX3_46 : xa_FP RX3 46 3 7 .int := ⟨_, _, _, tyX3, rfl, rfl, inX3, by decide, tb208, tyX3_ok, nmX3, rfl, by decide +kernel⟩
set_option maxRecDepth 20000 in
theorem lfX3_49 : xa_FL RX3 49 3 1 := ⟨_, _, _, rfl, rfl, inX3, by decide, tb196⟩
set_option maxRecDepth 20000 in
theorem lpX3_49 : xa_FF RX3 49 3 1 .int := ⟨_, _, _, tyX3, rfl, rfl, inX3, by decide, tb196, tyX3_ok, nmX3, rfl, rfl, by decide +kernel⟩
set_option maxRecDepth 20000 in
theorem lfX3_52 : xa_FL RX3 52 3 2 := ⟨_, _, _, rfl, rfl, inX3, by decide, tb198⟩
set_option maxRecDepth 20000 in
theorem lpX3_52 : xa_FF RX3 52 3 2 .int := ⟨_, _, _, tyX3, rfl, rfl, inX3, by decide, tb198, tyX3_ok, nmX3, rfl, rfl, by decide +kernel⟩
set_option maxRecDepth 20000 in
theorem lfX3_55 : xa_FL RX3 55 3 3 := ⟨_, _, _, rfl, rfl, inX3, by decide, tb200⟩
set_option maxRecDepth 20000 in
theorem lpX3_55 : xa_FF RX3 55 3 3 .int := ⟨_, _, _, tyX3, rfl, rfl, inX3, by decide, tb200, tyX3_ok, nmX3, rfl, rfl, by decide +kernel⟩
set_option maxRecDepth 20000 in
theorem lfX3_58 : xa_FL RX3 58 3 11 := ⟨_, _, _, rfl, rfl, inX3, by decide, tb215⟩
set_option maxRecDepth 20000 in
theorem lpX3_58 : xa_FP RX3 58 3 11 (.object "WhoIsThere$Bridge") := ⟨_, _, _, tyX3, rfl, rfl, inX3, by decide, tb215, tyX3_ok, nmX3, rfl, by decide +kernel⟩
set_option maxRecDepth 20000 in
theorem lfX3_62 : xa_FL RX3 62 2 1 := ⟨_, _, _, rfl, rfl, inX2, by decide, tb463⟩
set_option maxRecDepth 20000 in
theorem lpX3_62 : xa_FP RX3 62 2 1 .int := ⟨_, _, _, tyX2, rfl, rfl, inX2, by decide, tb463, tyX2_ok, nmX2, rfl, by decide +kernel⟩
set_option maxRecDepth 20000 in
theorem lfX3_65 : xa_FL RX3 65 3 9 := ⟨_, _, _, rfl, rfl, inX3, by decide, tb212⟩
set_option maxRecDepth 20000 in
theorem lpX3_65 : xa_FP RX3 65 3 9 .boolean := ⟨_, _, _, tyX3, rfl, rfl, inX3, by decide, tb212, tyX3_ok, nmX3, rfl, by decide +kernel⟩
set_option maxRecDepth 20000 in
theorem lfX3_75 : xa_FL RX3 75 2 2 := ⟨_, _, _, rfl, rfl, inX2, by decide, tb466⟩
set_option maxRecDepth 20000 in
theorem lpX3_75 : xa_FP RX3 75 2 2 (.object "WhoIsThere$Letter") := ⟨_, _, _, tyX2, rfl, rfl, inX2, by decide, tb466, tyX2_ok, nmX2, rfl, by decide +kernel⟩
set_option maxRecDepth 20000 in
theorem lfX4_9 : xa_FL RX4 9 4 2 := ⟨_, _, _, rfl, rfl, inX4, by decide, tb141⟩
set_option maxRecDepth 20000 in
theorem lpX4_9 : xa_FF RX4 9 4 2 (.array .int) := ⟨_, _, _, tyX4, rfl, rfl, inX4, by decide, tb141, tyX4_ok, nmX4, rfl, rfl, by decide +kernel⟩
set_option maxRecDepth 20000 in
theorem lfX4_15 : xa_FL RX4 15 4 3 := ⟨_, _, _, rfl, rfl, inX4, by decide, tb143⟩
set_option maxRecDepth 20000 in
theorem lpX4_15 : xa_FF RX4 15 4 3 (.array .int) := ⟨_, _, _, tyX4, rfl, rfl, inX4, by decide, tb143, tyX4_ok, nmX4, rfl, rfl, by decide +kernel⟩
set_option maxRecDepth 20000 in
theorem lfX4_18 : xa_FL RX4 18 4 4 := ⟨_, _, _, rfl, rfl, inX4, by decide, tb145⟩
set_option maxRecDepth 20000 in
theorem lpX4_18 : xa_FF RX4 18 4 4 (.array .int) := ⟨_, _, _, tyX4, rfl, rfl, inX4, by decide, tb145, tyX4_ok, nmX4, rfl, rfl, by decide +kernel⟩
set_option maxRecDepth 20000 in
theorem lfX4_21 : xa_FL RX4 21 4 6 := ⟨_, _, _, rfl, rfl, inX4, by decide, tb148⟩
set_option maxRecDepth 20000 in
theorem lpX4_21 : xa_FF RX4 21 4 6 (.array .int) := ⟨_, _, _, tyX4, rfl, rfl, inX4, by decide, tb148, tyX4_ok, nmX4, rfl, rfl, by decide +kernel⟩
set_option maxRecDepth 20000 in
theorem lfX4_24 : xa_FL RX4 24 4 7 := ⟨_, _, _, rfl, rfl, inX4, by decide, tb150⟩
set_option maxRecDepth 20000 in
theorem lpX4_24 : xa_FF RX4 24 4 7 (.array .int) := ⟨_, _, _, tyX4, rfl, rfl, inX4, by decide, tb150, tyX4_ok, nmX4, rfl, rfl, by decide +kernel⟩
set_option maxRecDepth 20000 in
theorem lfX4_27 : xa_FL RX4 27 4 9 := ⟨_, _, _, rfl, rfl, inX4, by decide, tb153⟩
set_option maxRecDepth 20000 in
theorem lpX4_27 : xa_FF RX4 27 4 9 (.array .int) := ⟨_, _, _, tyX4, rfl, rfl, inX4, by decide, tb153, tyX4_ok, nmX4, rfl, rfl, by decide +kernel⟩
set_option maxRecDepth 20000 in
theorem lfX4_30 : xa_FL RX4 30 4 11 := ⟨_, _, _, rfl, rfl, inX4, by decide, tb156⟩
set_option maxRecDepth 20000 in
theorem lpX4_30 : xa_FF RX4 30 4 11 (.array .int) := ⟨_, _, _, tyX4, rfl, rfl, inX4, by decide, tb156, tyX4_ok, nmX4, rfl, rfl, by decide +kernel⟩
set_option maxRecDepth 20000 in
theorem lfX4_33 : xa_FL RX4 33 4 12 := ⟨_, _, _, rfl, rfl, inX4, by decide, tb158⟩
set_option maxRecDepth 20000 in
theorem lpX4_33 : xa_FF RX4 33 4 12 (.array .int) := ⟨_, _, _, tyX4, rfl, rfl, inX4, by decide, tb158, tyX4_ok, nmX4, rfl, rfl, by decide +kernel⟩
set_option maxRecDepth 20000 in
theorem lfX4_36 : xa_FL RX4 36 4 13 := ⟨_, _, _, rfl, rfl, inX4, by decide, tb160⟩
set_option maxRecDepth 20000 in
theorem lpX4_36 : xa_FF RX4 36 4 13 (.array .int) := ⟨_, _, _, tyX4, rfl, rfl, inX4, by decide, tb160, tyX4_ok, nmX4, rfl, rfl, by decide +kernel⟩
set_option maxRecDepth 20000 in
theorem lfX4_39 : xa_FL RX4 39 4 14 := ⟨_, _, _, rfl, rfl, inX4, by decide, tb162⟩
set_option maxRecDepth 20000 in
theorem lpX4_39 : xa_FF RX4 39 4 14 (.array .int) := ⟨_, _, _, tyX4, rfl, rfl, inX4, by decide, tb162, tyX4_ok, nmX4, rfl, rfl, by decide +kernel⟩
set_option maxRecDepth 20000 in
theorem lfX4_42 : xa_FL RX4 42 4 1 := ⟨_, _, _, rfl, rfl, inX4, by decide, tb139⟩
set_option maxRecDepth 20000 in
theorem lpX4_42 : xa_FP RX4 42 4 1 .int := ⟨_, _, _, tyX4, rfl, rfl, inX4, by decide, tb139, tyX4_ok, nmX4, rfl, by decide +kernel⟩
set_option maxRecDepth 20000 in
theorem lfX4_46 : xa_FL RX4 46 4 5 := ⟨_, _, _, rfl, rfl, inX4, by decide, tb146⟩
set_option maxRecDepth 20000 in
theorem lpX4_46 : xa_FP RX4 46 4 5 .int := ⟨_, _, _, tyX4, rfl, rfl, inX4, by decide, tb146, tyX4_ok, nmX4, rfl, by decide +kernel⟩
set_option maxRecDepth 20000 in
theorem lfX4_49 : xa_FL RX4 49 4 8 := ⟨_, _, _, rfl, rfl, inX4, by decide, tb151⟩
set_option maxRecDepth 20000 in
theorem lpX4_49 : xa_FP RX4 49 4 8 .int := ⟨_, _, _, tyX4, rfl, rfl, inX4, by decide, tb151, tyX4_ok, nmX4, rfl, by decide +kernel⟩
set_option maxRecDepth 20000 in
theorem lfX4_52 : xa_FL RX4 52 4 10 := ⟨_, _, _, rfl, rfl, inX4, by decide, tb154⟩
set_option maxRecDepth 20000 in
theorem lpX4_52 : xa_FP RX4 52 4 10 .int := ⟨_, _, _, tyX4, rfl, rfl, inX4, by decide, tb154, tyX4_ok, nmX4, rfl, by decide +kernel⟩
set_option maxRecDepth 20000 in
theorem lfX4_65 : xa_FL RX4 65 4 0 := ⟨_, _, _, rfl, rfl, inX4, by decide, tb137⟩
set_option maxRecDepth 20000 in
theorem lpX4_65 : xa_FP RX4 65 4 0 .int := ⟨_, _, _, tyX4, rfl, rfl, inX4, by decide, tb137, tyX4_ok, nmX4, rfl, by decide +kernel⟩
set_option maxRecDepth 20000 in
theorem lfX5_9 : xa_FL RX5 9 5 7 := ⟨_, _, _, rfl, rfl, inX5, by decide, tb312⟩
set_option maxRecDepth 20000 in
theorem lpX5_9 : xa_FP RX5 9 5 7 .int := ⟨_, _, _, tyX5, rfl, rfl, inX5, by decide, tb312, tyX5_ok, nmX5, rfl, by decide +kernel⟩
set_option maxRecDepth 20000 in
theorem lfX5_15 : xa_FL RX5 15 5 8 := ⟨_, _, _, rfl, rfl, inX5, by decide, tb314⟩
set_option maxRecDepth 20000 in
theorem lpX5_15 : xa_FP RX5 15 5 8 .int := ⟨_, _, _, tyX5, rfl, rfl, inX5, by decide, tb314, tyX5_ok, nmX5, rfl, by decide +kernel⟩
set_option maxRecDepth 20000 in
theorem lfX5_18 : xa_FL RX5 18 5 0 := ⟨_, _, _, rfl, rfl, inX5, by decide, tb298⟩
set_option maxRecDepth 20000 in
theorem lpX5_18 : xa_FF RX5 18 5 0 .int := ⟨_, _, _, tyX5, rfl, rfl, inX5, by decide, tb298, tyX5_ok, nmX5, rfl, rfl, by decide +kernel⟩
set_option maxRecDepth 20000 in
theorem lfX5_21 : xa_FL RX5 21 5 1 := ⟨_, _, _, rfl, rfl, inX5, by decide, tb300⟩
set_option maxRecDepth 20000 in
theorem lpX5_21 : xa_FF RX5 21 5 1 (.object "WhoIsThere$Host") := ⟨_, _, _, tyX5, rfl, rfl, inX5, by decide, tb300, tyX5_ok, nmX5, rfl, rfl, by decide +kernel⟩
set_option maxRecDepth 20000 in
theorem lfX5_25 : xa_FL RX5 25 5 2 := ⟨_, _, _, rfl, rfl, inX5, by decide, tb302⟩
set_option maxRecDepth 20000 in
theorem lpX5_25 : xa_FF RX5 25 5 2 .int := ⟨_, _, _, tyX5, rfl, rfl, inX5, by decide, tb302, tyX5_ok, nmX5, rfl, rfl, by decide +kernel⟩
set_option maxRecDepth 20000 in
theorem lfX5_28 : xa_FL RX5 28 5 5 := ⟨_, _, _, rfl, rfl, inX5, by decide, tb308⟩
set_option maxRecDepth 20000 in
theorem lpX5_28 : xa_FP RX5 28 5 5 .int := ⟨_, _, _, tyX5, rfl, rfl, inX5, by decide, tb308, tyX5_ok, nmX5, rfl, by decide +kernel⟩
set_option maxRecDepth 20000 in
theorem lfX5_31 : xa_FL RX5 31 5 6 := ⟨_, _, _, rfl, rfl, inX5, by decide, tb310⟩
set_option maxRecDepth 20000 in
theorem lpX5_31 : xa_FP RX5 31 5 6 .int := ⟨_, _, _, tyX5, rfl, rfl, inX5, by decide, tb310, tyX5_ok, nmX5, rfl, by decide +kernel⟩
set_option maxRecDepth 20000 in
theorem lfX5_34 : xa_FL RX5 34 5 3 := ⟨_, _, _, rfl, rfl, inX5, by decide, tb304⟩
set_option maxRecDepth 20000 in
theorem lpX5_34 : xa_FF RX5 34 5 3 .int := ⟨_, _, _, tyX5, rfl, rfl, inX5, by decide, tb304, tyX5_ok, nmX5, rfl, rfl, by decide +kernel⟩
set_option maxRecDepth 20000 in
theorem lfX5_37 : xa_FL RX5 37 5 4 := ⟨_, _, _, rfl, rfl, inX5, by decide, tb306⟩
set_option maxRecDepth 20000 in
theorem lpX5_37 : xa_FF RX5 37 5 4 .boolean := ⟨_, _, _, tyX5, rfl, rfl, inX5, by decide, tb306, tyX5_ok, nmX5, rfl, rfl, by decide +kernel⟩
set_option maxRecDepth 20000 in
theorem lfX5_41 : xa_FL RX5 41 5 9 := ⟨_, _, _, rfl, rfl, inX5, by decide, tb316⟩
set_option maxRecDepth 20000 in
theorem lpX5_41 : xa_FP RX5 41 5 9 .int := ⟨_, _, _, tyX5, rfl, rfl, inX5, by decide, tb316, tyX5_ok, nmX5, rfl, by decide +kernel⟩
set_option maxRecDepth 20000 in
theorem lfX5_44 : xa_FL RX5 44 5 10 := ⟨_, _, _, rfl, rfl, inX5, by decide, tb318⟩
set_option maxRecDepth 20000 in
theorem lpX5_44 : xa_FP RX5 44 5 10 .boolean := ⟨_, _, _, tyX5, rfl, rfl, inX5, by decide, tb318, tyX5_ok, nmX5, rfl, by decide +kernel⟩
set_option maxRecDepth 20000 in
theorem lfX5_47 : xa_FL RX5 47 5 11 := ⟨_, _, _, rfl, rfl, inX5, by decide, tb320⟩
set_option maxRecDepth 20000 in
theorem lpX5_47 : xa_FP RX5 47 5 11 .int := ⟨_, _, _, tyX5, rfl, rfl, inX5, by decide, tb320, tyX5_ok, nmX5, rfl, by decide +kernel⟩
set_option maxRecDepth 20000 in
theorem lfX6_9 : xa_FL RX6 9 6 0 := ⟨_, _, _, rfl, rfl, inX6, by decide, tb81⟩
set_option maxRecDepth 20000 in
theorem lpX6_9 : xa_FF RX6 9 6 0 (.array .int) := ⟨_, _, _, tyX6, rfl, rfl, inX6, by decide, tb81, tyX6_ok, nmX6, rfl, rfl, by decide +kernel⟩
set_option maxRecDepth 20000 in
theorem lfX6_15 : xa_FL RX6 15 6 1 := ⟨_, _, _, rfl, rfl, inX6, by decide, tb83⟩
set_option maxRecDepth 20000 in
theorem lpX6_15 : xa_FF RX6 15 6 1 (.array .int) := ⟨_, _, _, tyX6, rfl, rfl, inX6, by decide, tb83, tyX6_ok, nmX6, rfl, rfl, by decide +kernel⟩
set_option maxRecDepth 20000 in
theorem lfX6_18 : xa_FL RX6 18 6 2 := ⟨_, _, _, rfl, rfl, inX6, by decide, tb85⟩
set_option maxRecDepth 20000 in
theorem lpX6_18 : xa_FF RX6 18 6 2 (.array .int) := ⟨_, _, _, tyX6, rfl, rfl, inX6, by decide, tb85, tyX6_ok, nmX6, rfl, rfl, by decide +kernel⟩
set_option maxRecDepth 20000 in
theorem lfX6_21 : xa_FL RX6 21 6 3 := ⟨_, _, _, rfl, rfl, inX6, by decide, tb87⟩
set_option maxRecDepth 20000 in
theorem lpX6_21 : xa_FF RX6 21 6 3 (.array .int) := ⟨_, _, _, tyX6, rfl, rfl, inX6, by decide, tb87, tyX6_ok, nmX6, rfl, rfl, by decide +kernel⟩
set_option maxRecDepth 20000 in
theorem lfX6_24 : xa_FL RX6 24 6 4 := ⟨_, _, _, rfl, rfl, inX6, by decide, tb88⟩
set_option maxRecDepth 20000 in
theorem lpX6_24 : xa_FP RX6 24 6 4 .int := ⟨_, _, _, tyX6, rfl, rfl, inX6, by decide, tb88, tyX6_ok, nmX6, rfl, by decide +kernel⟩
set_option maxRecDepth 20000 in
theorem lfX8_9 : xa_FL RX8 9 8 0 := ⟨_, _, _, rfl, rfl, inX8, by decide, tb805⟩
set_option maxRecDepth 20000 in
theorem lpX8_9 : xa_FF RX8 9 8 0 (.array .int) := ⟨_, _, _, tyX8, rfl, rfl, inX8, by decide, tb805, tyX8_ok, nmX8, rfl, rfl, by decide +kernel⟩
set_option maxRecDepth 20000 in
theorem lfX8_13 : xa_FL RX8 13 8 1 := ⟨_, _, _, rfl, rfl, inX8, by decide, tb806⟩
set_option maxRecDepth 20000 in
theorem lpX8_13 : xa_FF RX8 13 8 1 (.array .int) := ⟨_, _, _, tyX8, rfl, rfl, inX8, by decide, tb806, tyX8_ok, nmX8, rfl, rfl, by decide +kernel⟩
set_option maxRecDepth 20000 in
theorem lfX8_16 : xa_FL RX8 16 8 2 := ⟨_, _, _, rfl, rfl, inX8, by decide, tb807⟩
set_option maxRecDepth 20000 in
theorem lpX8_16 : xa_FF RX8 16 8 2 (.array .int) := ⟨_, _, _, tyX8, rfl, rfl, inX8, by decide, tb807, tyX8_ok, nmX8, rfl, rfl, by decide +kernel⟩
set_option maxRecDepth 20000 in
theorem lfX8_19 : xa_FL RX8 19 8 3 := ⟨_, _, _, rfl, rfl, inX8, by decide, tb808⟩
set_option maxRecDepth 20000 in
theorem lpX8_19 : xa_FF RX8 19 8 3 (.array .int) := ⟨_, _, _, tyX8, rfl, rfl, inX8, by decide, tb808, tyX8_ok, nmX8, rfl, rfl, by decide +kernel⟩
set_option maxRecDepth 20000 in
theorem lfX8_22 : xa_FL RX8 22 8 4 := ⟨_, _, _, rfl, rfl, inX8, by decide, tb809⟩
set_option maxRecDepth 20000 in
theorem lpX8_22 : xa_FF RX8 22 8 4 (.array .int) := ⟨_, _, _, tyX8, rfl, rfl, inX8, by decide, tb809, tyX8_ok, nmX8, rfl, rfl, by decide +kernel⟩
set_option maxRecDepth 20000 in
theorem lfX8_25 : xa_FL RX8 25 8 5 := ⟨_, _, _, rfl, rfl, inX8, by decide, tb810⟩
set_option maxRecDepth 20000 in
theorem lpX8_25 : xa_FF RX8 25 8 5 (.array .int) := ⟨_, _, _, tyX8, rfl, rfl, inX8, by decide, tb810, tyX8_ok, nmX8, rfl, rfl, by decide +kernel⟩
set_option maxRecDepth 20000 in
theorem lfX8_28 : xa_FL RX8 28 8 6 := ⟨_, _, _, rfl, rfl, inX8, by decide, tb811⟩
set_option maxRecDepth 20000 in
theorem lpX8_28 : xa_FF RX8 28 8 6 (.array .boolean) := ⟨_, _, _, tyX8, rfl, rfl, inX8, by decide, tb811, tyX8_ok, nmX8, rfl, rfl, by decide +kernel⟩
set_option maxRecDepth 20000 in
theorem lfX8_32 : xa_FL RX8 32 8 7 := ⟨_, _, _, rfl, rfl, inX8, by decide, tb812⟩
set_option maxRecDepth 20000 in
theorem lpX8_32 : xa_FF RX8 32 8 7 (.array .boolean) := ⟨_, _, _, tyX8, rfl, rfl, inX8, by decide, tb812, tyX8_ok, nmX8, rfl, rfl, by decide +kernel⟩
set_option maxRecDepth 20000 in
theorem lfX8_35 : xa_FL RX8 35 8 8 := ⟨_, _, _, rfl, rfl, inX8, by decide, tb813⟩
set_option maxRecDepth 20000 in
theorem lpX8_35 : xa_FF RX8 35 8 8 (.array .boolean) := ⟨_, _, _, tyX8, rfl, rfl, inX8, by decide, tb813, tyX8_ok, nmX8, rfl, rfl, by decide +kernel⟩
set_option maxRecDepth 20000 in
theorem lfX8_38 : xa_FL RX8 38 8 9 := ⟨_, _, _, rfl, rfl, inX8, by decide, tb814⟩
set_option maxRecDepth 20000 in
theorem lpX8_38 : xa_FF RX8 38 8 9 (.array .int) := ⟨_, _, _, tyX8, rfl, rfl, inX8, by decide, tb814, tyX8_ok, nmX8, rfl, rfl, by decide +kernel⟩
set_option maxRecDepth 20000 in
theorem lfX8_41 : xa_FL RX8 41 8 10 := ⟨_, _, _, rfl, rfl, inX8, by decide, tb815⟩
set_option maxRecDepth 20000 in
theorem lpX8_41 : xa_FF RX8 41 8 10 (.array .int) := ⟨_, _, _, tyX8, rfl, rfl, inX8, by decide, tb815, tyX8_ok, nmX8, rfl, rfl, by decide +kernel⟩
set_option maxRecDepth 20000 in
theorem lfX8_44 : xa_FL RX8 44 8 11 := ⟨_, _, _, rfl, rfl, inX8, by decide, tb816⟩
set_option maxRecDepth 20000 in
theorem lpX8_44 : xa_FF RX8 44 8 11 (.array .int) := ⟨_, _, _, tyX8, rfl, rfl, inX8, by decide, tb816, tyX8_ok, nmX8, rfl, rfl, by decide +kernel⟩
set_option maxRecDepth 20000 in
theorem lfX8_47 : xa_FL RX8 47 8 12 := ⟨_, _, _, rfl, rfl, inX8, by decide, tb817⟩
set_option maxRecDepth 20000 in
theorem lpX8_47 : xa_FF RX8 47 8 12 (.array .int) := ⟨_, _, _, tyX8, rfl, rfl, inX8, by decide, tb817, tyX8_ok, nmX8, rfl, rfl, by decide +kernel⟩
set_option maxRecDepth 20000 in
theorem lfX8_50 : xa_FL RX8 50 8 13 := ⟨_, _, _, rfl, rfl, inX8, by decide, tb818⟩
set_option maxRecDepth 20000 in
theorem lpX8_50 : xa_FF RX8 50 8 13 (.array .int) := ⟨_, _, _, tyX8, rfl, rfl, inX8, by decide, tb818, tyX8_ok, nmX8, rfl, rfl, by decide +kernel⟩
set_option maxRecDepth 20000 in
theorem lfX8_53 : xa_FL RX8 53 8 15 := ⟨_, _, _, rfl, rfl, inX8, by decide, tb820⟩
set_option maxRecDepth 20000 in
theorem lpX8_53 : xa_FF RX8 53 8 15 (.array .int) := ⟨_, _, _, tyX8, rfl, rfl, inX8, by decide, tb820, tyX8_ok, nmX8, rfl, rfl, by decide +kernel⟩
set_option maxRecDepth 20000 in
theorem lfX8_56 : xa_FL RX8 56 8 16 := ⟨_, _, _, rfl, rfl, inX8, by decide, tb821⟩
set_option maxRecDepth 20000 in
theorem lpX8_56 : xa_FF RX8 56 8 16 (.array .int) := ⟨_, _, _, tyX8, rfl, rfl, inX8, by decide, tb821, tyX8_ok, nmX8, rfl, rfl, by decide +kernel⟩
set_option maxRecDepth 20000 in
theorem lfX8_59 : xa_FL RX8 59 8 17 := ⟨_, _, _, rfl, rfl, inX8, by decide, tb822⟩
set_option maxRecDepth 20000 in
theorem lpX8_59 : xa_FF RX8 59 8 17 (.array .int) := ⟨_, _, _, tyX8, rfl, rfl, inX8, by decide, tb822, tyX8_ok, nmX8, rfl, rfl, by decide +kernel⟩
set_option maxRecDepth 20000 in
theorem lfX8_62 : xa_FL RX8 62 8 18 := ⟨_, _, _, rfl, rfl, inX8, by decide, tb823⟩
set_option maxRecDepth 20000 in
theorem lpX8_62 : xa_FF RX8 62 8 18 (.array .int) := ⟨_, _, _, tyX8, rfl, rfl, inX8, by decide, tb823, tyX8_ok, nmX8, rfl, rfl, by decide +kernel⟩
set_option maxRecDepth 20000 in
theorem lfX8_65 : xa_FL RX8 65 8 19 := ⟨_, _, _, rfl, rfl, inX8, by decide, tb824⟩
set_option maxRecDepth 20000 in
theorem lpX8_65 : xa_FF RX8 65 8 19 (.array .int) := ⟨_, _, _, tyX8, rfl, rfl, inX8, by decide, tb824, tyX8_ok, nmX8, rfl, rfl, by decide +kernel⟩
set_option maxRecDepth 20000 in
theorem lfX8_68 : xa_FL RX8 68 8 20 := ⟨_, _, _, rfl, rfl, inX8, by decide, tb825⟩
set_option maxRecDepth 20000 in
theorem lpX8_68 : xa_FF RX8 68 8 20 (.array .int) := ⟨_, _, _, tyX8, rfl, rfl, inX8, by decide, tb825, tyX8_ok, nmX8, rfl, rfl, by decide +kernel⟩
set_option maxRecDepth 20000 in
theorem lfX8_71 : xa_FL RX8 71 8 21 := ⟨_, _, _, rfl, rfl, inX8, by decide, tb826⟩
set_option maxRecDepth 20000 in
theorem lpX8_71 : xa_FF RX8 71 8 21 (.array .int) := ⟨_, _, _, tyX8, rfl, rfl, inX8, by decide, tb826, tyX8_ok, nmX8, rfl, rfl, by decide +kernel⟩
set_option maxRecDepth 20000 in
theorem lfX8_74 : xa_FL RX8 74 8 22 := ⟨_, _, _, rfl, rfl, inX8, by decide, tb827⟩
set_option maxRecDepth 20000 in
theorem lpX8_74 : xa_FF RX8 74 8 22 (.array .int) := ⟨_, _, _, tyX8, rfl, rfl, inX8, by decide, tb827, tyX8_ok, nmX8, rfl, rfl, by decide +kernel⟩
set_option maxRecDepth 20000 in
theorem lfX8_77 : xa_FL RX8 77 8 23 := ⟨_, _, _, rfl, rfl, inX8, by decide, tb828⟩
set_option maxRecDepth 20000 in
theorem lpX8_77 : xa_FF RX8 77 8 23 (.array .int) := ⟨_, _, _, tyX8, rfl, rfl, inX8, by decide, tb828, tyX8_ok, nmX8, rfl, rfl, by decide +kernel⟩
set_option maxRecDepth 20000 in
theorem lfX8_80 : xa_FL RX8 80 8 24 := ⟨_, _, _, rfl, rfl, inX8, by decide, tb829⟩
set_option maxRecDepth 20000 in
theorem lpX8_80 : xa_FF RX8 80 8 24 (.array .boolean) := ⟨_, _, _, tyX8, rfl, rfl, inX8, by decide, tb829, tyX8_ok, nmX8, rfl, rfl, by decide +kernel⟩
set_option maxRecDepth 20000 in
theorem lfX8_83 : xa_FL RX8 83 8 25 := ⟨_, _, _, rfl, rfl, inX8, by decide, tb830⟩
set_option maxRecDepth 20000 in
theorem lpX8_83 : xa_FF RX8 83 8 25 (.array .boolean) := ⟨_, _, _, tyX8, rfl, rfl, inX8, by decide, tb830, tyX8_ok, nmX8, rfl, rfl, by decide +kernel⟩
set_option maxRecDepth 20000 in
theorem lfX8_86 : xa_FL RX8 86 8 27 := ⟨_, _, _, rfl, rfl, inX8, by decide, tb832⟩
set_option maxRecDepth 20000 in
theorem lpX8_86 : xa_FF RX8 86 8 27 (.array .boolean) := ⟨_, _, _, tyX8, rfl, rfl, inX8, by decide, tb832, tyX8_ok, nmX8, rfl, rfl, by decide +kernel⟩
set_option maxRecDepth 20000 in
theorem lfX8_89 : xa_FL RX8 89 8 28 := ⟨_, _, _, rfl, rfl, inX8, by decide, tb833⟩
set_option maxRecDepth 20000 in
theorem lpX8_89 : xa_FF RX8 89 8 28 (.array .int) := ⟨_, _, _, tyX8, rfl, rfl, inX8, by decide, tb833, tyX8_ok, nmX8, rfl, rfl, by decide +kernel⟩
set_option maxRecDepth 20000 in
theorem lfX8_92 : xa_FL RX8 92 8 29 := ⟨_, _, _, rfl, rfl, inX8, by decide, tb834⟩
set_option maxRecDepth 20000 in
theorem lpX8_92 : xa_FF RX8 92 8 29 (.array .int) := ⟨_, _, _, tyX8, rfl, rfl, inX8, by decide, tb834, tyX8_ok, nmX8, rfl, rfl, by decide +kernel⟩
set_option maxRecDepth 20000 in
theorem lfX8_95 : xa_FL RX8 95 8 30 := ⟨_, _, _, rfl, rfl, inX8, by decide, tb835⟩
set_option maxRecDepth 20000 in
theorem lpX8_95 : xa_FF RX8 95 8 30 (.array .int) := ⟨_, _, _, tyX8, rfl, rfl, inX8, by decide, tb835, tyX8_ok, nmX8, rfl, rfl, by decide +kernel⟩
set_option maxRecDepth 20000 in
theorem lfX8_98 : xa_FL RX8 98 8 31 := ⟨_, _, _, rfl, rfl, inX8, by decide, tb836⟩
set_option maxRecDepth 20000 in
theorem lpX8_98 : xa_FF RX8 98 8 31 (.array .int) := ⟨_, _, _, tyX8, rfl, rfl, inX8, by decide, tb836, tyX8_ok, nmX8, rfl, rfl, by decide +kernel⟩
set_option maxRecDepth 20000 in
theorem lfX8_101 : xa_FL RX8 101 8 32 := ⟨_, _, _, rfl, rfl, inX8, by decide, tb837⟩
set_option maxRecDepth 20000 in
theorem lpX8_101 : xa_FF RX8 101 8 32 (.array .int) := ⟨_, _, _, tyX8, rfl, rfl, inX8, by decide, tb837, tyX8_ok, nmX8, rfl, rfl, by decide +kernel⟩
set_option maxRecDepth 20000 in
theorem lfX8_104 : xa_FL RX8 104 8 33 := ⟨_, _, _, rfl, rfl, inX8, by decide, tb838⟩
set_option maxRecDepth 20000 in
theorem lpX8_104 : xa_FF RX8 104 8 33 (.array .boolean) := ⟨_, _, _, tyX8, rfl, rfl, inX8, by decide, tb838, tyX8_ok, nmX8, rfl, rfl, by decide +kernel⟩
set_option maxRecDepth 20000 in
theorem lfX8_107 : xa_FL RX8 107 8 34 := ⟨_, _, _, rfl, rfl, inX8, by decide, tb839⟩
set_option maxRecDepth 20000 in
theorem lpX8_107 : xa_FF RX8 107 8 34 (.array .int) := ⟨_, _, _, tyX8, rfl, rfl, inX8, by decide, tb839, tyX8_ok, nmX8, rfl, rfl, by decide +kernel⟩
set_option maxRecDepth 20000 in
theorem lfX8_110 : xa_FL RX8 110 8 35 := ⟨_, _, _, rfl, rfl, inX8, by decide, tb840⟩
set_option maxRecDepth 20000 in
theorem lpX8_110 : xa_FF RX8 110 8 35 (.array .int) := ⟨_, _, _, tyX8, rfl, rfl, inX8, by decide, tb840, tyX8_ok, nmX8, rfl, rfl, by decide +kernel⟩
set_option maxRecDepth 20000 in
theorem lfX8_113 : xa_FL RX8 113 8 45 := ⟨_, _, _, rfl, rfl, inX8, by decide, tb850⟩
set_option maxRecDepth 20000 in
theorem lpX8_113 : xa_FF RX8 113 8 45 (.array .int) := ⟨_, _, _, tyX8, rfl, rfl, inX8, by decide, tb850, tyX8_ok, nmX8, rfl, rfl, by decide +kernel⟩
set_option maxRecDepth 20000 in
theorem lfX8_116 : xa_FL RX8 116 8 46 := ⟨_, _, _, rfl, rfl, inX8, by decide, tb851⟩
set_option maxRecDepth 20000 in
theorem lpX8_116 : xa_FF RX8 116 8 46 (.array .int) := ⟨_, _, _, tyX8, rfl, rfl, inX8, by decide, tb851, tyX8_ok, nmX8, rfl, rfl, by decide +kernel⟩
set_option maxRecDepth 20000 in
theorem lfX8_119 : xa_FL RX8 119 8 48 := ⟨_, _, _, rfl, rfl, inX8, by decide, tb853⟩
set_option maxRecDepth 20000 in
theorem lpX8_119 : xa_FF RX8 119 8 48 (.array .boolean) := ⟨_, _, _, tyX8, rfl, rfl, inX8, by decide, tb853, tyX8_ok, nmX8, rfl, rfl, by decide +kernel⟩
set_option maxRecDepth 20000 in
theorem lfX8_122 : xa_FL RX8 122 8 49 := ⟨_, _, _, rfl, rfl, inX8, by decide, tb854⟩
set_option maxRecDepth 20000 in
theorem lpX8_122 : xa_FF RX8 122 8 49 (.array .int) := ⟨_, _, _, tyX8, rfl, rfl, inX8, by decide, tb854, tyX8_ok, nmX8, rfl, rfl, by decide +kernel⟩
set_option maxRecDepth 20000 in
theorem lfX8_125 : xa_FL RX8 125 8 50 := ⟨_, _, _, rfl, rfl, inX8, by decide, tb855⟩
set_option maxRecDepth 20000 in
theorem lpX8_125 : xa_FF RX8 125 8 50 (.array .int) := ⟨_, _, _, tyX8, rfl, rfl, inX8, by decide, tb855, tyX8_ok, nmX8, rfl, rfl, by decide +kernel⟩
set_option maxRecDepth 20000 in
theorem lfX8_128 : xa_FL RX8 128 8 51 := ⟨_, _, _, rfl, rfl, inX8, by decide, tb856⟩
set_option maxRecDepth 20000 in
theorem lpX8_128 : xa_FF RX8 128 8 51 (.array .int) := ⟨_, _, _, tyX8, rfl, rfl, inX8, by decide, tb856, tyX8_ok, nmX8, rfl, rfl, by decide +kernel⟩
set_option maxRecDepth 20000 in
theorem lfX8_131 : xa_FL RX8 131 8 52 := ⟨_, _, _, rfl, rfl, inX8, by decide, tb857⟩
set_option maxRecDepth 20000 in
theorem lpX8_131 : xa_FF RX8 131 8 52 (.array .int) := ⟨_, _, _, tyX8, rfl, rfl, inX8, by decide, tb857, tyX8_ok, nmX8, rfl, rfl, by decide +kernel⟩
set_option maxRecDepth 20000 in
theorem lfX8_134 : xa_FL RX8 134 8 53 := ⟨_, _, _, rfl, rfl, inX8, by decide, tb858⟩
set_option maxRecDepth 20000 in
theorem lpX8_134 : xa_FF RX8 134 8 53 (.array .int) := ⟨_, _, _, tyX8, rfl, rfl, inX8, by decide, tb858, tyX8_ok, nmX8, rfl, rfl, by decide +kernel⟩
set_option maxRecDepth 20000 in
theorem lfX8_137 : xa_FL RX8 137 8 54 := ⟨_, _, _, rfl, rfl, inX8, by decide, tb859⟩
set_option maxRecDepth 20000 in
theorem lpX8_137 : xa_FF RX8 137 8 54 (.array .boolean) := ⟨_, _, _, tyX8, rfl, rfl, inX8, by decide, tb859, tyX8_ok, nmX8, rfl, rfl, by decide +kernel⟩
set_option maxRecDepth 20000 in
theorem lfX8_140 : xa_FL RX8 140 8 55 := ⟨_, _, _, rfl, rfl, inX8, by decide, tb860⟩
set_option maxRecDepth 20000 in
theorem lpX8_140 : xa_FF RX8 140 8 55 (.array .int) := ⟨_, _, _, tyX8, rfl, rfl, inX8, by decide, tb860, tyX8_ok, nmX8, rfl, rfl, by decide +kernel⟩
set_option maxRecDepth 20000 in
theorem lfX8_143 : xa_FL RX8 143 8 56 := ⟨_, _, _, rfl, rfl, inX8, by decide, tb861⟩
set_option maxRecDepth 20000 in
theorem lpX8_143 : xa_FF RX8 143 8 56 (.array .int) := ⟨_, _, _, tyX8, rfl, rfl, inX8, by decide, tb861, tyX8_ok, nmX8, rfl, rfl, by decide +kernel⟩
set_option maxRecDepth 20000 in
theorem lfX8_146 : xa_FL RX8 146 8 57 := ⟨_, _, _, rfl, rfl, inX8, by decide, tb862⟩
set_option maxRecDepth 20000 in
theorem lpX8_146 : xa_FF RX8 146 8 57 (.array .int) := ⟨_, _, _, tyX8, rfl, rfl, inX8, by decide, tb862, tyX8_ok, nmX8, rfl, rfl, by decide +kernel⟩
set_option maxRecDepth 20000 in
theorem lfX8_149 : xa_FL RX8 149 8 58 := ⟨_, _, _, rfl, rfl, inX8, by decide, tb863⟩
set_option maxRecDepth 20000 in
theorem lpX8_149 : xa_FF RX8 149 8 58 (.array .int) := ⟨_, _, _, tyX8, rfl, rfl, inX8, by decide, tb863, tyX8_ok, nmX8, rfl, rfl, by decide +kernel⟩
set_option maxRecDepth 20000 in
theorem lfX8_152 : xa_FL RX8 152 8 59 := ⟨_, _, _, rfl, rfl, inX8, by decide, tb864⟩
set_option maxRecDepth 20000 in
theorem lpX8_152 : xa_FF RX8 152 8 59 (.array .int) := ⟨_, _, _, tyX8, rfl, rfl, inX8, by decide, tb864, tyX8_ok, nmX8, rfl, rfl, by decide +kernel⟩
set_option maxRecDepth 20000 in
theorem lfX8_155 : xa_FL RX8 155 8 14 := ⟨_, _, _, rfl, rfl, inX8, by decide, tb819⟩
set_option maxRecDepth 20000 in
theorem lpX8_155 : xa_FP RX8 155 8 14 .int := ⟨_, _, _, tyX8, rfl, rfl, inX8, by decide, tb819, tyX8_ok, nmX8, rfl, by decide +kernel⟩
set_option maxRecDepth 20000 in
theorem lfX8_170 : xa_FL RX8 170 8 26 := ⟨_, _, _, rfl, rfl, inX8, by decide, tb831⟩
set_option maxRecDepth 20000 in
theorem lpX8_170 : xa_FP RX8 170 8 26 .int := ⟨_, _, _, tyX8, rfl, rfl, inX8, by decide, tb831, tyX8_ok, nmX8, rfl, by decide +kernel⟩
set_option maxRecDepth 20000 in
theorem lfX8_191 : xa_FL RX8 191 8 36 := ⟨_, _, _, rfl, rfl, inX8, by decide, tb841⟩
set_option maxRecDepth 20000 in
theorem lpX8_191 : xa_FP RX8 191 8 36 .int := ⟨_, _, _, tyX8, rfl, rfl, inX8, by decide, tb841, tyX8_ok, nmX8, rfl, by decide +kernel⟩
set_option maxRecDepth 20000 in
theorem lfX8_221 : xa_FL RX8 221 8 42 := ⟨_, _, _, rfl, rfl, inX8, by decide, tb847⟩
set_option maxRecDepth 20000 in
theorem lpX8_221 : xa_FP RX8 221 8 42 .int := ⟨_, _, _, tyX8, rfl, rfl, inX8, by decide, tb847, tyX8_ok, nmX8, rfl, by decide +kernel⟩
set_option maxRecDepth 20000 in
theorem lfX8_225 : xa_FL RX8 225 8 47 := ⟨_, _, _, rfl, rfl, inX8, by decide, tb852⟩
set_option maxRecDepth 20000 in
theorem lpX8_225 : xa_FP RX8 225 8 47 .int := ⟨_, _, _, tyX8, rfl, rfl, inX8, by decide, tb852, tyX8_ok, nmX8, rfl, by decide +kernel⟩
set_option maxRecDepth 20000 in
theorem lfX8_231 : xa_FL RX8 231 8 37 := ⟨_, _, _, rfl, rfl, inX8, by decide, tb842⟩
set_option maxRecDepth 20000 in
theorem lpX8_231 : xa_FP RX8 231 8 37 .int := ⟨_, _, _, tyX8, rfl, rfl, inX8, by decide, tb842, tyX8_ok, nmX8, rfl, by decide +kernel⟩
set_option maxRecDepth 20000 in
theorem lfX8_234 : xa_FL RX8 234 8 43 := ⟨_, _, _, rfl, rfl, inX8, by decide, tb848⟩
set_option maxRecDepth 20000 in
theorem lpX8_234 : xa_FP RX8 234 8 43 .int := ⟨_, _, _, tyX8, rfl, rfl, inX8, by decide, tb848, tyX8_ok, nmX8, rfl, by decide +kernel⟩
set_option maxRecDepth 20000 in
theorem lfX8_237 : xa_FL RX8 237 8 39 := ⟨_, _, _, rfl, rfl, inX8, by decide, tb844⟩
set_option maxRecDepth 20000 in
theorem lpX8_237 : xa_FP RX8 237 8 39 .int := ⟨_, _, _, tyX8, rfl, rfl, inX8, by decide, tb844, tyX8_ok, nmX8, rfl, by decide +kernel⟩
set_option maxRecDepth 20000 in
theorem lfX8_274 : xa_FL RX8 274 8 38 := ⟨_, _, _, rfl, rfl, inX8, by decide, tb843⟩
set_option maxRecDepth 20000 in
theorem lpX8_274 : xa_FP RX8 274 8 38 .int := ⟨_, _, _, tyX8, rfl, rfl, inX8, by decide, tb843, tyX8_ok, nmX8, rfl, by decide +kernel⟩
set_option maxRecDepth 20000 in
theorem lfX8_286 : xa_FL RX8 286 8 44 := ⟨_, _, _, rfl, rfl, inX8, by decide, tb849⟩
set_option maxRecDepth 20000 in
theorem lpX8_286 : xa_FP RX8 286 8 44 .int := ⟨_, _, _, tyX8, rfl, rfl, inX8, by decide, tb849, tyX8_ok, nmX8, rfl, by decide +kernel⟩
set_option maxRecDepth 20000 in
theorem lfX8_311 : xa_FL RX8 311 8 40 := ⟨_, _, _, rfl, rfl, inX8, by decide, tb845⟩
set_option maxRecDepth 20000 in
theorem lpX8_311 : xa_FP RX8 311 8 40 .int := ⟨_, _, _, tyX8, rfl, rfl, inX8, by decide, tb845, tyX8_ok, nmX8, rfl, by decide +kernel⟩
set_option maxRecDepth 20000 in
theorem lfX8_314 : xa_FL RX8 314 8 41 := ⟨_, _, _, rfl, rfl, inX8, by decide, tb846⟩
set_option maxRecDepth 20000 in
theorem lpX8_314 : xa_FP RX8 314 8 41 .int := ⟨_, _, _, tyX8, rfl, rfl, inX8, by decide, tb846, tyX8_ok, nmX8, rfl, by decide +kernel⟩
set_option maxRecDepth 20000 in
theorem loX7_1 : Cond.methodLink RX7 1 objectInit ∈ xa_G := tb16
set_option maxRecDepth 20000 in
theorem cbX7_isNet : xa_CB mX7_isNet 1 := ⟨tb1, tb69, by decide +kernel, by decide +kernel, by decide +kernel⟩
set_option maxRecDepth 20000 in
theorem lcX7_21 : xa_CS RX7 21 mX7_isNet 1 := ⟨cbX7_isNet, tb67, tb68⟩
set_option maxRecDepth 20000 in
theorem cbX3_init : xa_CB mX3_init 5 := ⟨tb3, tb73, by decide +kernel, by decide +kernel, by decide +kernel⟩
set_option maxRecDepth 20000 in
theorem lcX7_29 : xa_CI RX7 29 mX3_init 5 := ⟨cbX3_init, tb71, rfl, tb72, rfl⟩
set_option maxRecDepth 20000 in
theorem cbX7_stayingHelper : xa_CB mX7_stayingHelper 1 := ⟨tb1, tb262, by decide +kernel, by decide +kernel, by decide +kernel⟩
set_option maxRecDepth 20000 in
theorem lcX7_35 : xa_CV RX7 35 mX7_stayingHelper 1 := ⟨cbX7_stayingHelper, tb259, tb261, (xa_gs 0 rfl rfl)⟩
set_option maxRecDepth 20000 in
theorem cbX3_hasForName : xa_CB mX3_hasForName 1 := ⟨tb3, tb274, by decide +kernel, by decide +kernel, by decide +kernel⟩
set_option maxRecDepth 20000 in
theorem lcX7_39 : xa_CV RX7 39 mX3_hasForName 1 := ⟨cbX3_hasForName, tb271, tb272, tb273⟩
set_option maxRecDepth 20000 in
theorem cbX7_addService : xa_CB mX7_addService 6 := ⟨tb1, tb278, by decide +kernel, by decide +kernel, by decide +kernel⟩
set_option maxRecDepth 20000 in
theorem lcX7_42 : xa_CV RX7 42 mX7_addService 6 := ⟨cbX7_addService, tb275, tb277, (xa_gs 3 rfl rfl)⟩
set_option maxRecDepth 20000 in
theorem cbX7_serviceInCare : xa_CB mX7_serviceInCare 1 := ⟨tb1, tb362, by decide +kernel, by decide +kernel, by decide +kernel⟩
set_option maxRecDepth 20000 in
theorem lcX7_46 : xa_CV RX7 46 mX7_serviceInCare 1 := ⟨cbX7_serviceInCare, tb359, tb361, (xa_gs 6 rfl rfl)⟩
set_option maxRecDepth 20000 in
theorem cbX5_end : xa_CB mX5_end 0 := ⟨tb8, tb370, by decide +kernel, by decide +kernel, by decide +kernel⟩
set_option maxRecDepth 20000 in
theorem lcX7_50 : xa_CV RX7 50 mX5_end 0 := ⟨cbX5_end, tb367, tb368, tb369⟩
set_option maxRecDepth 20000 in
theorem cbX7_areMarks : xa_CB mX7_areMarks 1 := ⟨tb1, tb284, by decide +kernel, by decide +kernel, by decide +kernel⟩
set_option maxRecDepth 20000 in
theorem lcX7_53 : xa_CS RX7 53 mX7_areMarks 1 := ⟨cbX7_areMarks, tb282, tb283⟩
set_option maxRecDepth 20000 in
theorem cbX7_isKind : xa_CB mX7_isKind 1 := ⟨tb1, tb281, by decide +kernel, by decide +kernel, by decide +kernel⟩
set_option maxRecDepth 20000 in
theorem lcX7_68 : xa_CS RX7 68 mX7_isKind 1 := ⟨cbX7_isKind, tb279, tb280⟩
set_option maxRecDepth 20000 in
theorem cbX1_has : xa_CB mX1_has 1 := ⟨tb5, tb382, by decide +kernel, by decide +kernel, by decide +kernel⟩
set_option maxRecDepth 20000 in
theorem lcX7_75 : xa_CV RX7 75 mX1_has 1 := ⟨cbX1_has, tb379, tb380, tb381⟩
set_option maxRecDepth 20000 in
theorem cbX7_lotOf : xa_CB mX7_lotOf 1 := ⟨tb1, tb389, by decide +kernel, by decide +kernel, by decide +kernel⟩
set_option maxRecDepth 20000 in
theorem lcX7_80 : xa_CV RX7 80 mX7_lotOf 1 := ⟨cbX7_lotOf, tb386, tb388, (xa_gs 8 rfl rfl)⟩
set_option maxRecDepth 20000 in
theorem cbX1_put : xa_CB mX1_put 3 := ⟨tb5, tb393, by decide +kernel, by decide +kernel, by decide +kernel⟩
set_option maxRecDepth 20000 in
theorem lcX7_84 : xa_CV RX7 84 mX1_put 3 := ⟨cbX1_put, tb390, tb391, tb392⟩
set_option maxRecDepth 20000 in
theorem cbX7_hostAt : xa_CB mX7_hostAt 1 := ⟨tb1, tb270, by decide +kernel, by decide +kernel, by decide +kernel⟩
set_option maxRecDepth 20000 in
theorem lcX7_100 : xa_CV RX7 100 mX7_hostAt 1 := ⟨cbX7_hostAt, tb267, tb269, (xa_gs 2 rfl rfl)⟩
set_option maxRecDepth 20000 in
theorem cbX3_goAway : xa_CB mX3_goAway 0 := ⟨tb3, tb409, by decide +kernel, by decide +kernel, by decide +kernel⟩
set_option maxRecDepth 20000 in
theorem lcX7_112 : xa_CV RX7 112 mX3_goAway 0 := ⟨cbX3_goAway, tb406, tb407, tb408⟩
set_option maxRecDepth 20000 in
theorem cbX7_stayingHost : xa_CB mX7_stayingHost 1 := ⟨tb1, tb266, by decide +kernel, by decide +kernel, by decide +kernel⟩
set_option maxRecDepth 20000 in
theorem lcX7_115 : xa_CV RX7 115 mX7_stayingHost 1 := ⟨cbX7_stayingHost, tb263, tb265, (xa_gs 1 rfl rfl)⟩
set_option maxRecDepth 20000 in
theorem cbX7_rouse : xa_CB mX7_rouse 1 := ⟨tb1, tb429, by decide +kernel, by decide +kernel, by decide +kernel⟩
set_option maxRecDepth 20000 in
theorem lcX7_118 : xa_CV RX7 118 mX7_rouse 1 := ⟨cbX7_rouse, tb426, tb428, (xa_gs 9 rfl rfl)⟩
set_option maxRecDepth 20000 in
theorem cbX1_isEmpty : xa_CB mX1_isEmpty 0 := ⟨tb5, tb442, by decide +kernel, by decide +kernel, by decide +kernel⟩
set_option maxRecDepth 20000 in
theorem lcX7_123 : xa_CV RX7 123 mX1_isEmpty 0 := ⟨cbX1_isEmpty, tb439, tb440, tb441⟩
set_option maxRecDepth 20000 in
theorem cbX7_hasHadServices : xa_CB mX7_hasHadServices 1 := ⟨tb1, tb446, by decide +kernel, by decide +kernel, by decide +kernel⟩
set_option maxRecDepth 20000 in
theorem lcX7_127 : xa_CV RX7 127 mX7_hasHadServices 1 := ⟨cbX7_hasHadServices, tb443, tb445, (xa_gs 10 rfl rfl)⟩
set_option maxRecDepth 20000 in
theorem cbX7_isProxyOfASleeper : xa_CB mX7_isProxyOfASleeper 1 := ⟨tb1, tb450, by decide +kernel, by decide +kernel, by decide +kernel⟩
set_option maxRecDepth 20000 in
theorem lcX7_131 : xa_CV RX7 131 mX7_isProxyOfASleeper 1 := ⟨cbX7_isProxyOfASleeper, tb447, tb449, (xa_gs 11 rfl rfl)⟩
set_option maxRecDepth 20000 in
theorem cbX6_clear : xa_CB mX6_clear 0 := ⟨tb4, tb413, by decide +kernel, by decide +kernel, by decide +kernel⟩
set_option maxRecDepth 20000 in
theorem lcX7_138 : xa_CV RX7 138 mX6_clear 0 := ⟨cbX6_clear, tb451, tb411, tb412⟩
set_option maxRecDepth 20000 in
theorem cbX0_clear : xa_CB mX0_clear 0 := ⟨tb6, tb421, by decide +kernel, by decide +kernel, by decide +kernel⟩
set_option maxRecDepth 20000 in
theorem lcX7_147 : xa_CV RX7 147 mX0_clear 0 := ⟨cbX0_clear, tb452, tb419, tb420⟩
set_option maxRecDepth 20000 in
theorem cbX2_init : xa_CB mX2_init 2 := ⟨tb9, tb457, by decide +kernel, by decide +kernel, by decide +kernel⟩
set_option maxRecDepth 20000 in
theorem lcX7_152 : xa_CI RX7 152 mX2_init 2 := ⟨cbX2_init, tb455, rfl, tb456, rfl⟩
set_option maxRecDepth 20000 in
theorem cbX3_move : xa_CB mX3_move 2 := ⟨tb3, tb498, by decide +kernel, by decide +kernel, by decide +kernel⟩
set_option maxRecDepth 20000 in
theorem lcX7_165 : xa_CV RX7 165 mX3_move 2 := ⟨cbX3_move, tb495, tb496, tb497⟩
set_option maxRecDepth 20000 in
theorem cbX7_holdClaimedNames : xa_CB mX7_holdClaimedNames 0 := ⟨tb1, tb506, by decide +kernel, by decide +kernel, by decide +kernel⟩
set_option maxRecDepth 20000 in
theorem lcX7_168 : xa_CV RX7 168 mX7_holdClaimedNames 0 := ⟨cbX7_holdClaimedNames, tb503, tb505, (xa_gs 12 rfl rfl)⟩
set_option maxRecDepth 20000 in
theorem cbX7_writeLetters : xa_CB mX7_writeLetters 0 := ⟨tb1, tb510, by decide +kernel, by decide +kernel, by decide +kernel⟩
set_option maxRecDepth 20000 in
theorem lcX7_171 : xa_CV RX7 171 mX7_writeLetters 0 := ⟨cbX7_writeLetters, tb507, tb509, (xa_gs 13 rfl rfl)⟩
set_option maxRecDepth 20000 in
theorem cbX7_hearLetters : xa_CB mX7_hearLetters 0 := ⟨tb1, tb609, by decide +kernel, by decide +kernel, by decide +kernel⟩
set_option maxRecDepth 20000 in
theorem lcX7_174 : xa_CV RX7 174 mX7_hearLetters 0 := ⟨cbX7_hearLetters, tb606, tb608, (xa_gs 23 rfl rfl)⟩
set_option maxRecDepth 20000 in
theorem cbX7_forgetWhatEnds : xa_CB mX7_forgetWhatEnds 0 := ⟨tb1, tb737, by decide +kernel, by decide +kernel, by decide +kernel⟩
set_option maxRecDepth 20000 in
theorem lcX7_177 : xa_CV RX7 177 mX7_forgetWhatEnds 0 := ⟨cbX7_forgetWhatEnds, tb734, tb736, (xa_gs 35 rfl rfl)⟩
set_option maxRecDepth 20000 in
theorem cbX7_isFound : xa_CB mX7_isFound 4 := ⟨tb1, tb751, by decide +kernel, by decide +kernel, by decide +kernel⟩
set_option maxRecDepth 20000 in
theorem lcX7_180 : xa_CV RX7 180 mX7_isFound 4 := ⟨cbX7_isFound, tb748, tb750, (xa_gs 36 rfl rfl)⟩
set_option maxRecDepth 20000 in
theorem cbX7_serviceAt : xa_CB mX7_serviceAt 1 := ⟨tb1, tb366, by decide +kernel, by decide +kernel, by decide +kernel⟩
set_option maxRecDepth 20000 in
theorem lcX7_188 : xa_CV RX7 188 mX7_serviceAt 1 := ⟨cbX7_serviceAt, tb363, tb365, (xa_gs 7 rfl rfl)⟩
set_option maxRecDepth 20000 in
theorem cbX6_has : xa_CB mX6_has 1 := ⟨tb4, tb597, by decide +kernel, by decide +kernel, by decide +kernel⟩
set_option maxRecDepth 20000 in
theorem lcX7_191 : xa_CV RX7 191 mX6_has 1 := ⟨cbX6_has, tb594, tb595, tb596⟩
set_option maxRecDepth 20000 in
theorem cbX6_left : xa_CB mX6_left 2 := ⟨tb4, tb601, by decide +kernel, by decide +kernel, by decide +kernel⟩
set_option maxRecDepth 20000 in
theorem lcX7_194 : xa_CV RX7 194 mX6_left 2 := ⟨cbX6_left, tb598, tb599, tb600⟩
set_option maxRecDepth 20000 in
theorem cbX7_hasProxyAwake : xa_CB mX7_hasProxyAwake 1 := ⟨tb1, tb767, by decide +kernel, by decide +kernel, by decide +kernel⟩
set_option maxRecDepth 20000 in
theorem lcX7_210 : xa_CV RX7 210 mX7_hasProxyAwake 1 := ⟨cbX7_hasProxyAwake, tb764, tb766, (xa_gs 37 rfl rfl)⟩
set_option maxRecDepth 20000 in
theorem cbX6_size : xa_CB mX6_size 0 := ⟨tb4, tb771, by decide +kernel, by decide +kernel, by decide +kernel⟩
set_option maxRecDepth 20000 in
theorem lcX7_216 : xa_CV RX7 216 mX6_size 0 := ⟨cbX6_size, tb768, tb769, tb770⟩
set_option maxRecDepth 20000 in
theorem cbX1_size : xa_CB mX1_size 0 := ⟨tb5, tb776, by decide +kernel, by decide +kernel, by decide +kernel⟩
set_option maxRecDepth 20000 in
theorem lcX7_220 : xa_CV RX7 220 mX1_size 0 := ⟨cbX1_size, tb773, tb774, tb775⟩
set_option maxRecDepth 20000 in
theorem cbX0_size : xa_CB mX0_size 0 := ⟨tb6, tb781, by decide +kernel, by decide +kernel, by decide +kernel⟩
set_option maxRecDepth 20000 in
theorem lcX7_221 : xa_CV RX7 221 mX0_size 0 := ⟨cbX0_size, tb778, tb779, tb780⟩
set_option maxRecDepth 20000 in
theorem cbX7_isSpokenForOn : xa_CB mX7_isSpokenForOn 2 := ⟨tb1, tb794, by decide +kernel, by decide +kernel, by decide +kernel⟩
set_option maxRecDepth 20000 in
theorem lcX7_222 : xa_CV RX7 222 mX7_isSpokenForOn 2 := ⟨cbX7_isSpokenForOn, tb791, tb793, (xa_gs 38 rfl rfl)⟩
set_option maxRecDepth 20000 in
theorem cbX7_liveServicesOf : xa_CB mX7_liveServicesOf 1 := ⟨tb1, tb288, by decide +kernel, by decide +kernel, by decide +kernel⟩
set_option maxRecDepth 20000 in
theorem lcX7_250 : xa_CV RX7 250 mX7_liveServicesOf 1 := ⟨cbX7_liveServicesOf, tb285, tb287, (xa_gs 4 rfl rfl)⟩
set_option maxRecDepth 20000 in
theorem cbX7_isNameTaken : xa_CB mX7_isNameTaken 2 := ⟨tb1, tb292, by decide +kernel, by decide +kernel, by decide +kernel⟩
set_option maxRecDepth 20000 in
theorem lcX7_253 : xa_CV RX7 253 mX7_isNameTaken 2 := ⟨cbX7_isNameTaken, tb289, tb291, (xa_gs 5 rfl rfl)⟩
set_option maxRecDepth 20000 in
theorem cbX5_init : xa_CB mX5_init 7 := ⟨tb8, tb296, by decide +kernel, by decide +kernel, by decide +kernel⟩
set_option maxRecDepth 20000 in
theorem lcX7_257 : xa_CI RX7 257 mX5_init 7 := ⟨cbX5_init, tb294, rfl, tb295, rfl⟩
set_option maxRecDepth 20000 in
theorem cbX5_hold : xa_CB mX5_hold 1 := ⟨tb8, tb350, by decide +kernel, by decide +kernel, by decide +kernel⟩
set_option maxRecDepth 20000 in
theorem lcX7_260 : xa_CV RX7 260 mX5_hold 1 := ⟨cbX5_hold, tb347, tb348, tb349⟩
set_option maxRecDepth 20000 in
theorem cbX3_clearLetters : xa_CB mX3_clearLetters 0 := ⟨tb3, tb514, by decide +kernel, by decide +kernel, by decide +kernel⟩
set_option maxRecDepth 20000 in
theorem lcX7_274 : xa_CV RX7 274 mX3_clearLetters 0 := ⟨cbX3_clearLetters, tb511, tb512, tb513⟩
set_option maxRecDepth 20000 in
theorem cbX7_writeByes : xa_CB mX7_writeByes 1 := ⟨tb1, tb522, by decide +kernel, by decide +kernel, by decide +kernel⟩
set_option maxRecDepth 20000 in
theorem lcX7_277 : xa_CV RX7 277 mX7_writeByes 1 := ⟨cbX7_writeByes, tb519, tb521, (xa_gs 14 rfl rfl)⟩
set_option maxRecDepth 20000 in
theorem cbX7_post : xa_CB mX7_post 3 := ⟨tb1, tb530, by decide +kernel, by decide +kernel, by decide +kernel⟩
set_option maxRecDepth 20000 in
theorem lcX7_284 : xa_CV RX7 284 mX7_post 3 := ⟨cbX7_post, tb527, tb529, (xa_gs 15 rfl rfl)⟩
set_option maxRecDepth 20000 in
theorem cbX7_writeCarried : xa_CB mX7_writeCarried 2 := ⟨tb1, tb538, by decide +kernel, by decide +kernel, by decide +kernel⟩
set_option maxRecDepth 20000 in
theorem lcX7_288 : xa_CV RX7 288 mX7_writeCarried 2 := ⟨cbX7_writeCarried, tb535, tb537, (xa_gs 16 rfl rfl)⟩
set_option maxRecDepth 20000 in
theorem cbX7_writeAsks : xa_CB mX7_writeAsks 1 := ⟨tb1, tb542, by decide +kernel, by decide +kernel, by decide +kernel⟩
set_option maxRecDepth 20000 in
theorem lcX7_292 : xa_CV RX7 292 mX7_writeAsks 1 := ⟨cbX7_writeAsks, tb539, tb541, (xa_gs 17 rfl rfl)⟩
set_option maxRecDepth 20000 in
theorem cbX7_writeClaims : xa_CB mX7_writeClaims 1 := ⟨tb1, tb568, by decide +kernel, by decide +kernel, by decide +kernel⟩
set_option maxRecDepth 20000 in
theorem lcX7_295 : xa_CV RX7 295 mX7_writeClaims 1 := ⟨cbX7_writeClaims, tb565, tb567, (xa_gs 19 rfl rfl)⟩
set_option maxRecDepth 20000 in
theorem cbX7_writeTellings : xa_CB mX7_writeTellings 1 := ⟨tb1, tb576, by decide +kernel, by decide +kernel, by decide +kernel⟩
set_option maxRecDepth 20000 in
theorem lcX7_298 : xa_CV RX7 298 mX7_writeTellings 1 := ⟨cbX7_writeTellings, tb573, tb575, (xa_gs 20 rfl rfl)⟩
set_option maxRecDepth 20000 in
theorem cbX1_isDue : xa_CB mX1_isDue 2 := ⟨tb5, tb546, by decide +kernel, by decide +kernel, by decide +kernel⟩
set_option maxRecDepth 20000 in
theorem lcX7_301 : xa_CV RX7 301 mX1_isDue 2 := ⟨cbX1_isDue, tb543, tb544, tb545⟩
set_option maxRecDepth 20000 in
theorem cbX7_knownTo : xa_CB mX7_knownTo 2 := ⟨tb1, tb551, by decide +kernel, by decide +kernel, by decide +kernel⟩
set_option maxRecDepth 20000 in
theorem lcX7_306 : xa_CV RX7 306 mX7_knownTo 2 := ⟨cbX7_knownTo, tb548, tb550, (xa_gs 18 rfl rfl)⟩
set_option maxRecDepth 20000 in
theorem cbX4_addAsk : xa_CB mX4_addAsk 4 := ⟨tb7, tb560, by decide +kernel, by decide +kernel, by decide +kernel⟩
set_option maxRecDepth 20000 in
theorem lcX7_310 : xa_CV RX7 310 mX4_addAsk 4 := ⟨cbX4_addAsk, tb557, tb558, tb559⟩
set_option maxRecDepth 20000 in
theorem cbX1_remove : xa_CB mX1_remove 1 := ⟨tb5, tb564, by decide +kernel, by decide +kernel, by decide +kernel⟩
set_option maxRecDepth 20000 in
theorem lcX7_316 : xa_CV RX7 316 mX1_remove 1 := ⟨cbX1_remove, tb561, tb562, tb563⟩
set_option maxRecDepth 20000 in
theorem cbX4_addClaim : xa_CB mX4_addClaim 3 := ⟨tb7, tb572, by decide +kernel, by decide +kernel, by decide +kernel⟩
set_option maxRecDepth 20000 in
theorem lcX7_319 : xa_CV RX7 319 mX4_addClaim 3 := ⟨cbX4_addClaim, tb569, tb570, tb571⟩
set_option maxRecDepth 20000 in
theorem cbX4_addBye : xa_CB mX4_addBye 2 := ⟨tb7, tb526, by decide +kernel, by decide +kernel, by decide +kernel⟩
set_option maxRecDepth 20000 in
theorem lcX7_322 : xa_CV RX7 322 mX4_addBye 2 := ⟨cbX4_addBye, tb523, tb524, tb525⟩
set_option maxRecDepth 20000 in
theorem cbX0_isDue : xa_CB mX0_isDue 2 := ⟨tb6, tb580, by decide +kernel, by decide +kernel, by decide +kernel⟩
set_option maxRecDepth 20000 in
theorem lcX7_325 : xa_CV RX7 325 mX0_isDue 2 := ⟨cbX0_isDue, tb577, tb578, tb579⟩
set_option maxRecDepth 20000 in
theorem cbX7_writeTelling : xa_CB mX7_writeTelling 3 := ⟨tb1, tb585, by decide +kernel, by decide +kernel, by decide +kernel⟩
set_option maxRecDepth 20000 in
theorem lcX7_326 : xa_CV RX7 326 mX7_writeTelling 3 := ⟨cbX7_writeTelling, tb582, tb584, (xa_gs 21 rfl rfl)⟩
set_option maxRecDepth 20000 in
theorem cbX0_remove : xa_CB mX0_remove 1 := ⟨tb6, tb605, by decide +kernel, by decide +kernel, by decide +kernel⟩
set_option maxRecDepth 20000 in
theorem lcX7_330 : xa_CV RX7 330 mX0_remove 1 := ⟨cbX0_remove, tb602, tb603, tb604⟩
set_option maxRecDepth 20000 in
theorem cbX7_speaksFor : xa_CB mX7_speaksFor 2 := ⟨tb1, tb589, by decide +kernel, by decide +kernel, by decide +kernel⟩
set_option maxRecDepth 20000 in
theorem lcX7_331 : xa_CV RX7 331 mX7_speaksFor 2 := ⟨cbX7_speaksFor, tb586, tb588, (xa_gs 22 rfl rfl)⟩
set_option maxRecDepth 20000 in
theorem cbX4_addTelling : xa_CB mX4_addTelling 5 := ⟨tb7, tb593, by decide +kernel, by decide +kernel, by decide +kernel⟩
set_option maxRecDepth 20000 in
theorem lcX7_337 : xa_CV RX7 337 mX4_addTelling 5 := ⟨cbX4_addTelling, tb590, tb591, tb592⟩
set_option maxRecDepth 20000 in
theorem cbX4_isEmpty : xa_CB mX4_isEmpty 0 := ⟨tb7, tb534, by decide +kernel, by decide +kernel, by decide +kernel⟩
set_option maxRecDepth 20000 in
theorem lcX7_347 : xa_CV RX7 347 mX4_isEmpty 0 := ⟨cbX4_isEmpty, tb531, tb532, tb533⟩
set_option maxRecDepth 20000 in
theorem cbX7_sendOut : xa_CB mX7_sendOut 2 := ⟨tb1, tb613, by decide +kernel, by decide +kernel, by decide +kernel⟩
set_option maxRecDepth 20000 in
theorem lcX7_349 : xa_CV RX7 349 mX7_sendOut 2 := ⟨cbX7_sendOut, tb610, tb612, (xa_gs 24 rfl rfl)⟩
set_option maxRecDepth 20000 in
theorem cbX3_isOn : xa_CB mX3_isOn 1 := ⟨tb3, tb617, by decide +kernel, by decide +kernel, by decide +kernel⟩
set_option maxRecDepth 20000 in
theorem lcX7_353 : xa_CV RX7 353 mX3_isOn 1 := ⟨cbX3_isOn, tb614, tb615, tb616⟩
set_option maxRecDepth 20000 in
theorem cbX7_takeUp : xa_CB mX7_takeUp 3 := ⟨tb1, tb621, by decide +kernel, by decide +kernel, by decide +kernel⟩
set_option maxRecDepth 20000 in
theorem lcX7_356 : xa_CV RX7 356 mX7_takeUp 3 := ⟨cbX7_takeUp, tb618, tb620, (xa_gs 25 rfl rfl)⟩
set_option maxRecDepth 20000 in
theorem cbX7_hearLetter : xa_CB mX7_hearLetter 3 := ⟨tb1, tb678, by decide +kernel, by decide +kernel, by decide +kernel⟩
set_option maxRecDepth 20000 in
theorem lcX7_360 : xa_CV RX7 360 mX7_hearLetter 3 := ⟨cbX7_hearLetter, tb675, tb677, (xa_gs 26 rfl rfl)⟩
set_option maxRecDepth 20000 in
theorem cbX4_size : xa_CB mX4_size 0 := ⟨tb7, tb625, by decide +kernel, by decide +kernel, by decide +kernel⟩
set_option maxRecDepth 20000 in
theorem lcX7_364 : xa_CV RX7 364 mX4_size 0 := ⟨cbX4_size, tb622, tb623, tb624⟩
set_option maxRecDepth 20000 in
theorem cbX2_carries : xa_CB mX2_carries 1 := ⟨tb9, tb635, by decide +kernel, by decide +kernel, by decide +kernel⟩
set_option maxRecDepth 20000 in
theorem lcX7_374 : xa_CV RX7 374 mX2_carries 1 := ⟨cbX2_carries, tb632, tb633, tb634⟩
set_option maxRecDepth 20000 in
theorem cbX4_takeAsk : xa_CB mX4_takeAsk 3 := ⟨tb7, tb640, by decide +kernel, by decide +kernel, by decide +kernel⟩
set_option maxRecDepth 20000 in
theorem lcX7_377 : xa_CV RX7 377 mX4_takeAsk 3 := ⟨cbX4_takeAsk, tb637, tb638, tb639⟩
set_option maxRecDepth 20000 in
theorem cbX7_isIn : xa_CB mX7_isIn 2 := ⟨tb1, tb385, by decide +kernel, by decide +kernel, by decide +kernel⟩
set_option maxRecDepth 20000 in
theorem lcX7_381 : xa_CS RX7 381 mX7_isIn 2 := ⟨cbX7_isIn, tb647, tb384⟩
set_option maxRecDepth 20000 in
theorem cbX4_takeClaim : xa_CB mX4_takeClaim 3 := ⟨tb7, tb651, by decide +kernel, by decide +kernel, by decide +kernel⟩
set_option maxRecDepth 20000 in
theorem lcX7_384 : xa_CV RX7 384 mX4_takeClaim 3 := ⟨cbX4_takeClaim, tb648, tb649, tb650⟩
set_option maxRecDepth 20000 in
theorem cbX4_takeBye : xa_CB mX4_takeBye 3 := ⟨tb7, tb660, by decide +kernel, by decide +kernel, by decide +kernel⟩
set_option maxRecDepth 20000 in
theorem lcX7_387 : xa_CV RX7 387 mX4_takeBye 3 := ⟨cbX4_takeBye, tb657, tb658, tb659⟩
set_option maxRecDepth 20000 in
theorem cbX4_takeTelling : xa_CB mX4_takeTelling 3 := ⟨tb7, tb669, by decide +kernel, by decide +kernel, by decide +kernel⟩
set_option maxRecDepth 20000 in
theorem lcX7_390 : xa_CV RX7 390 mX4_takeTelling 3 := ⟨cbX4_takeTelling, tb666, tb667, tb668⟩
set_option maxRecDepth 20000 in
theorem cbX4_hasAsk : xa_CB mX4_hasAsk 1 := ⟨tb7, tb644, by decide +kernel, by decide +kernel, by decide +kernel⟩
set_option maxRecDepth 20000 in
theorem lcX7_393 : xa_CV RX7 393 mX4_hasAsk 1 := ⟨cbX4_hasAsk, tb679, tb642, tb643⟩
set_option maxRecDepth 20000 in
theorem cbX7_hearAsk : xa_CB mX7_hearAsk 4 := ⟨tb1, tb683, by decide +kernel, by decide +kernel, by decide +kernel⟩
set_option maxRecDepth 20000 in
theorem lcX7_396 : xa_CV RX7 396 mX7_hearAsk 4 := ⟨cbX7_hearAsk, tb680, tb682, (xa_gs 27 rfl rfl)⟩
set_option maxRecDepth 20000 in
theorem cbX4_hasClaim : xa_CB mX4_hasClaim 1 := ⟨tb7, tb655, by decide +kernel, by decide +kernel, by decide +kernel⟩
set_option maxRecDepth 20000 in
theorem lcX7_400 : xa_CV RX7 400 mX4_hasClaim 1 := ⟨cbX4_hasClaim, tb696, tb653, tb654⟩
set_option maxRecDepth 20000 in
theorem cbX7_contend : xa_CB mX7_contend 4 := ⟨tb1, tb700, by decide +kernel, by decide +kernel, by decide +kernel⟩
set_option maxRecDepth 20000 in
theorem lcX7_406 : xa_CV RX7 406 mX7_contend 4 := ⟨cbX7_contend, tb697, tb699, (xa_gs 30 rfl rfl)⟩
set_option maxRecDepth 20000 in
theorem cbX6_removeAll : xa_CB mX6_removeAll 1 := ⟨tb4, tb716, by decide +kernel, by decide +kernel, by decide +kernel⟩
set_option maxRecDepth 20000 in
theorem lcX7_410 : xa_CV RX7 410 mX6_removeAll 1 := ⟨cbX6_removeAll, tb713, tb714, tb715⟩
set_option maxRecDepth 20000 in
theorem cbX4_hasTelling : xa_CB mX4_hasTelling 1 := ⟨tb7, tb673, by decide +kernel, by decide +kernel, by decide +kernel⟩
set_option maxRecDepth 20000 in
theorem lcX7_413 : xa_CV RX7 413 mX4_hasTelling 1 := ⟨cbX4_hasTelling, tb717, tb671, tb672⟩
set_option maxRecDepth 20000 in
theorem cbX7_hearTelling : xa_CB mX7_hearTelling 3 := ⟨tb1, tb721, by decide +kernel, by decide +kernel, by decide +kernel⟩
set_option maxRecDepth 20000 in
theorem lcX7_416 : xa_CV RX7 416 mX7_hearTelling 3 := ⟨cbX7_hearTelling, tb718, tb720, (xa_gs 33 rfl rfl)⟩
set_option maxRecDepth 20000 in
theorem cbX7_leastKeeperOn : xa_CB mX7_leastKeeperOn 2 := ⟨tb1, tb687, by decide +kernel, by decide +kernel, by decide +kernel⟩
set_option maxRecDepth 20000 in
theorem lcX7_426 : xa_CV RX7 426 mX7_leastKeeperOn 2 := ⟨cbX7_leastKeeperOn, tb684, tb686, (xa_gs 28 rfl rfl)⟩
set_option maxRecDepth 20000 in
theorem cbX7_canAnswer : xa_CB mX7_canAnswer 3 := ⟨tb1, tb691, by decide +kernel, by decide +kernel, by decide +kernel⟩
set_option maxRecDepth 20000 in
theorem lcX7_430 : xa_CV RX7 430 mX7_canAnswer 3 := ⟨cbX7_canAnswer, tb688, tb690, (xa_gs 29 rfl rfl)⟩
set_option maxRecDepth 20000 in
theorem cbX0_comeDue : xa_CB mX0_comeDue 2 := ⟨tb6, tb695, by decide +kernel, by decide +kernel, by decide +kernel⟩
set_option maxRecDepth 20000 in
theorem lcX7_434 : xa_CV RX7 434 mX0_comeDue 2 := ⟨cbX0_comeDue, tb692, tb693, tb694⟩
set_option maxRecDepth 20000 in
theorem cbX6_isFresh : xa_CB mX6_isFresh 2 := ⟨tb4, tb555, by decide +kernel, by decide +kernel, by decide +kernel⟩
set_option maxRecDepth 20000 in
theorem lcX7_437 : xa_CV RX7 437 mX6_isFresh 2 := ⟨cbX6_isFresh, tb552, tb553, tb554⟩
set_option maxRecDepth 20000 in
theorem cbX7_otherRecorded : xa_CB mX7_otherRecorded 3 := ⟨tb1, tb725, by decide +kernel, by decide +kernel, by decide +kernel⟩
set_option maxRecDepth 20000 in
theorem lcX7_446 : xa_CV RX7 446 mX7_otherRecorded 3 := ⟨cbX7_otherRecorded, tb722, tb724, (xa_gs 34 rfl rfl)⟩
set_option maxRecDepth 20000 in
theorem cbX7_isStronger : xa_CB mX7_isStronger 2 := ⟨tb1, tb704, by decide +kernel, by decide +kernel, by decide +kernel⟩
set_option maxRecDepth 20000 in
theorem lcX7_450 : xa_CV RX7 450 mX7_isStronger 2 := ⟨cbX7_isStronger, tb701, tb703, (xa_gs 31 rfl rfl)⟩
set_option maxRecDepth 20000 in
theorem cbX6_remove : xa_CB mX6_remove 1 := ⟨tb4, tb729, by decide +kernel, by decide +kernel, by decide +kernel⟩
set_option maxRecDepth 20000 in
theorem lcX7_454 : xa_CV RX7 454 mX6_remove 1 := ⟨cbX6_remove, tb726, tb727, tb728⟩
set_option maxRecDepth 20000 in
theorem cbX6_put : xa_CB mX6_put 5 := ⟨tb4, tb733, by decide +kernel, by decide +kernel, by decide +kernel⟩
set_option maxRecDepth 20000 in
theorem lcX7_458 : xa_CV RX7 458 mX6_put 5 := ⟨cbX6_put, tb730, tb731, tb732⟩
set_option maxRecDepth 20000 in
theorem cbX7_giveWay : xa_CB mX7_giveWay 1 := ⟨tb1, tb708, by decide +kernel, by decide +kernel, by decide +kernel⟩
set_option maxRecDepth 20000 in
theorem lcX7_460 : xa_CV RX7 460 mX7_giveWay 1 := ⟨cbX7_giveWay, tb705, tb707, (xa_gs 32 rfl rfl)⟩
set_option maxRecDepth 20000 in
theorem cbX5_claimAnew : xa_CB mX5_claimAnew 1 := ⟨tb8, tb712, by decide +kernel, by decide +kernel, by decide +kernel⟩
set_option maxRecDepth 20000 in
theorem lcX7_470 : xa_CV RX7 470 mX5_claimAnew 1 := ⟨cbX5_claimAnew, tb709, tb710, tb711⟩
set_option maxRecDepth 20000 in
theorem cbX6_removeEnding : xa_CB mX6_removeEnding 1 := ⟨tb4, tb741, by decide +kernel, by decide +kernel, by decide +kernel⟩
set_option maxRecDepth 20000 in
theorem lcX7_473 : xa_CV RX7 473 mX6_removeEnding 1 := ⟨cbX6_removeEnding, tb738, tb739, tb740⟩
set_option maxRecDepth 20000 in
theorem loX0_3 : Cond.methodLink RX0 3 objectInit ∈ xa_G := tb123
set_option maxRecDepth 20000 in
theorem lcX0_19 : xa_CSN RX0 19 mX7_isIn 2 := ⟨cbX7_isIn, ⟨"WhoIsThere", List.mem_filter.mpr ⟨xa_t3 101 rfl, rfl⟩⟩, tb384⟩
set_option maxRecDepth 20000 in
theorem cbJ6_bitCount_0f7a4 : xa_CB mJ6_bitCount_0f7a4 1 := ⟨tb10, tb628, by decide +kernel, by decide +kernel, by decide +kernel⟩
set_option maxRecDepth 20000 in
theorem lcX0_23 : xa_CS RX0 23 mJ6_bitCount_0f7a4 1 := ⟨cbJ6_bitCount_0f7a4, tb782, tb627⟩
set_option maxRecDepth 20000 in
theorem loX1_3 : Cond.methodLink RX1 3 objectInit ∈ xa_G := tb106
set_option maxRecDepth 20000 in
theorem lcX1_22 : xa_CSN RX1 22 mX7_isIn 2 := ⟨cbX7_isIn, ⟨"WhoIsThere", List.mem_filter.mpr ⟨xa_t2 143 rfl, rfl⟩⟩, tb384⟩
set_option maxRecDepth 20000 in
theorem lcX1_26 : xa_CV RX1 26 mX1_has 1 := ⟨cbX1_has, tb547, tb380, tb381⟩
set_option maxRecDepth 20000 in
theorem lcX1_30 : xa_CS RX1 30 mJ6_bitCount_0f7a4 1 := ⟨cbJ6_bitCount_0f7a4, tb777, tb627⟩
set_option maxRecDepth 20000 in
theorem loX2_1 : Cond.methodLink RX2 1 objectInit ∈ xa_G := tb458
set_option maxRecDepth 20000 in
theorem cbX4_init : xa_CB mX4_init 0 := ⟨tb7, tb135, by decide +kernel, by decide +kernel, by decide +kernel⟩
set_option maxRecDepth 20000 in
theorem lcX2_9 : xa_CIN RX2 9 mX4_init 0 := ⟨cbX4_init, ⟨"WhoIsThere", List.mem_filter.mpr ⟨xa_t2 220 rfl, rfl⟩⟩, rfl, tb134, rfl⟩
set_option maxRecDepth 20000 in
theorem lcX2_29 : xa_CSN RX2 29 mX7_isIn 2 := ⟨cbX7_isIn, ⟨"WhoIsThere", List.mem_filter.mpr ⟨xa_t3 156 rfl, rfl⟩⟩, tb384⟩
set_option maxRecDepth 20000 in
theorem loX3_3 : Cond.methodLink RX3 3 objectInit ∈ xa_G := tb74
set_option maxRecDepth 20000 in
theorem cbX6_init : xa_CB mX6_init 0 := ⟨tb4, tb79, by decide +kernel, by decide +kernel, by decide +kernel⟩
set_option maxRecDepth 20000 in
theorem lcX3_11 : xa_CIN RX3 11 mX6_init 0 := ⟨cbX6_init, ⟨"WhoIsThere", List.mem_filter.mpr ⟨xa_t1 77 rfl, rfl⟩⟩, rfl, tb78, rfl⟩
set_option maxRecDepth 20000 in
theorem cbX1_init : xa_CB mX1_init 0 := ⟨tb5, tb105, by decide +kernel, by decide +kernel, by decide +kernel⟩
set_option maxRecDepth 20000 in
theorem lcX3_20 : xa_CIN RX3 20 mX1_init 0 := ⟨cbX1_init, ⟨"WhoIsThere", List.mem_filter.mpr ⟨xa_t1 103 rfl, rfl⟩⟩, rfl, tb104, rfl⟩
set_option maxRecDepth 20000 in
theorem cbX0_init : xa_CB mX0_init 0 := ⟨tb6, tb122, by decide +kernel, by decide +kernel, by decide +kernel⟩
set_option maxRecDepth 20000 in
theorem lcX3_27 : xa_CIN RX3 27 mX0_init 0 := ⟨cbX0_init, ⟨"WhoIsThere", List.mem_filter.mpr ⟨xa_t1 120 rfl, rfl⟩⟩, rfl, tb121, rfl⟩
set_option maxRecDepth 20000 in
theorem lcX3_38 : xa_CIN RX3 38 mX4_init 0 := ⟨cbX4_init, ⟨"WhoIsThere", List.mem_filter.mpr ⟨xa_t1 133 rfl, rfl⟩⟩, rfl, tb134, rfl⟩
set_option maxRecDepth 20000 in
theorem lcX3_69 : xa_CV RX3 69 mX6_clear 0 := ⟨cbX6_clear, tb410, tb411, tb412⟩
set_option maxRecDepth 20000 in
theorem cbX1_clear : xa_CB mX1_clear 0 := ⟨tb5, tb417, by decide +kernel, by decide +kernel, by decide +kernel⟩
set_option maxRecDepth 20000 in
theorem lcX3_72 : xa_CV RX3 72 mX1_clear 0 := ⟨cbX1_clear, tb414, tb415, tb416⟩
set_option maxRecDepth 20000 in
theorem lcX3_73 : xa_CV RX3 73 mX0_clear 0 := ⟨cbX0_clear, tb418, tb419, tb420⟩
set_option maxRecDepth 20000 in
theorem cbX4_clear : xa_CB mX4_clear 0 := ⟨tb7, tb518, by decide +kernel, by decide +kernel, by decide +kernel⟩
set_option maxRecDepth 20000 in
theorem lcX3_74 : xa_CV RX3 74 mX4_clear 0 := ⟨cbX4_clear, tb515, tb516, tb517⟩
set_option maxRecDepth 20000 in
theorem loX4_3 : Cond.methodLink RX4 3 objectInit ∈ xa_G := tb136
set_option maxRecDepth 20000 in
theorem lcX4_55 : xa_CS RX4 55 mJ6_bitCount_0f7a4 1 := ⟨cbJ6_bitCount_0f7a4, tb626, tb627⟩
set_option maxRecDepth 20000 in
theorem lcX4_61 : xa_CSN RX4 61 mX7_isIn 2 := ⟨cbX7_isIn, ⟨"WhoIsThere", List.mem_filter.mpr ⟨xa_t3 165 rfl, rfl⟩⟩, tb384⟩
set_option maxRecDepth 20000 in
theorem lcX4_68 : xa_CV RX4 68 mX4_hasAsk 1 := ⟨cbX4_hasAsk, tb641, tb642, tb643⟩
set_option maxRecDepth 20000 in
theorem lcX4_72 : xa_CV RX4 72 mX4_addAsk 4 := ⟨cbX4_addAsk, tb646, tb558, tb559⟩
set_option maxRecDepth 20000 in
theorem lcX4_76 : xa_CV RX4 76 mX4_hasClaim 1 := ⟨cbX4_hasClaim, tb652, tb653, tb654⟩
set_option maxRecDepth 20000 in
theorem lcX4_79 : xa_CV RX4 79 mX4_addClaim 3 := ⟨cbX4_addClaim, tb656, tb570, tb571⟩
set_option maxRecDepth 20000 in
theorem cbX4_hasBye : xa_CB mX4_hasBye 1 := ⟨tb7, tb664, by decide +kernel, by decide +kernel, by decide +kernel⟩
set_option maxRecDepth 20000 in
theorem lcX4_83 : xa_CV RX4 83 mX4_hasBye 1 := ⟨cbX4_hasBye, tb661, tb662, tb663⟩
set_option maxRecDepth 20000 in
theorem lcX4_86 : xa_CV RX4 86 mX4_addBye 2 := ⟨cbX4_addBye, tb665, tb524, tb525⟩
set_option maxRecDepth 20000 in
theorem lcX4_90 : xa_CV RX4 90 mX4_hasTelling 1 := ⟨cbX4_hasTelling, tb670, tb671, tb672⟩
set_option maxRecDepth 20000 in
theorem lcX4_93 : xa_CV RX4 93 mX4_addTelling 5 := ⟨cbX4_addTelling, tb674, tb591, tb592⟩
set_option maxRecDepth 20000 in
theorem loX5_3 : Cond.methodLink RX5 3 objectInit ∈ xa_G := tb297
set_option maxRecDepth 20000 in
theorem loX6_3 : Cond.methodLink RX6 3 objectInit ∈ xa_G := tb80
set_option maxRecDepth 20000 in
theorem lcX6_28 : xa_CSN RX6 28 mX7_isIn 2 := ⟨cbX7_isIn, ⟨"WhoIsThere", List.mem_filter.mpr ⟨xa_t3 76 rfl, rfl⟩⟩, tb384⟩
set_option maxRecDepth 20000 in
theorem lcX6_32 : xa_CS RX6 32 mJ6_bitCount_0f7a4 1 := ⟨cbJ6_bitCount_0f7a4, tb772, tb627⟩
set_option maxRecDepth 20000 in
theorem lcX6_38 : xa_CV RX6 38 mX6_has 1 := ⟨cbX6_has, tb742, tb595, tb596⟩
set_option maxRecDepth 20000 in
theorem lcX6_42 : xa_CV RX6 42 mX6_remove 1 := ⟨cbX6_remove, tb743, tb727, tb728⟩
set_option maxRecDepth 20000 in
theorem cbX7_init : xa_CB mX7_init 0 := ⟨tb1, tb15, by decide +kernel, by decide +kernel, by decide +kernel⟩
set_option maxRecDepth 20000 in
theorem lcL_9 : xa_CI RL 9 mX7_init 0 := ⟨cbX7_init, tb13, rfl, tb14, rfl⟩
set_option maxRecDepth 20000 in
theorem cbX8_init : xa_CB mX8_init 0 := ⟨tb2, tb803, by decide +kernel, by decide +kernel, by decide +kernel⟩
set_option maxRecDepth 20000 in
theorem lcL_12 : xa_CI RL 12 mX8_init 0 := ⟨cbX8_init, tb801, rfl, tb802, rfl⟩
set_option maxRecDepth 20000 in
theorem cbX7_host : xa_CB mX7_host 4 := ⟨tb1, tb66, by decide +kernel, by decide +kernel, by decide +kernel⟩
set_option maxRecDepth 20000 in
theorem lcL_13 : xa_CV RL 13 mX7_host 4 := ⟨cbX7_host, tb63, tb64, tb65⟩
set_option maxRecDepth 20000 in
theorem cbX8_host : xa_CB mX8_host 4 := ⟨tb2, tb990, by decide +kernel, by decide +kernel, by decide +kernel⟩
set_option maxRecDepth 20000 in
theorem lcL_17 : xa_CV RL 17 mX8_host 4 := ⟨cbX8_host, tb987, tb988, tb989⟩
set_option maxRecDepth 20000 in
theorem cbX7_offer : xa_CB mX7_offer 5 := ⟨tb1, tb258, by decide +kernel, by decide +kernel, by decide +kernel⟩
set_option maxRecDepth 20000 in
theorem lcL_18 : xa_CV RL 18 mX7_offer 5 := ⟨cbX7_offer, tb255, tb256, tb257⟩
set_option maxRecDepth 20000 in
theorem cbX8_offer : xa_CB mX8_offer 5 := ⟨tb2, tb997, by decide +kernel, by decide +kernel, by decide +kernel⟩
set_option maxRecDepth 20000 in
theorem lcL_22 : xa_CV RL 22 mX8_offer 5 := ⟨cbX8_offer, tb994, tb995, tb996⟩
set_option maxRecDepth 20000 in
theorem cbX7_lie : xa_CB mX7_lie 5 := ⟨tb1, tb354, by decide +kernel, by decide +kernel, by decide +kernel⟩
set_option maxRecDepth 20000 in
theorem lcL_23 : xa_CV RL 23 mX7_lie 5 := ⟨cbX7_lie, tb351, tb352, tb353⟩
set_option maxRecDepth 20000 in
theorem cbX8_lie : xa_CB mX8_lie 5 := ⟨tb2, tb1029, by decide +kernel, by decide +kernel, by decide +kernel⟩
set_option maxRecDepth 20000 in
theorem lcL_26 : xa_CV RL 26 mX8_lie 5 := ⟨cbX8_lie, tb1026, tb1027, tb1028⟩
set_option maxRecDepth 20000 in
theorem cbX7_drop : xa_CB mX7_drop 1 := ⟨tb1, tb358, by decide +kernel, by decide +kernel, by decide +kernel⟩
set_option maxRecDepth 20000 in
theorem lcL_27 : xa_CV RL 27 mX7_drop 1 := ⟨cbX7_drop, tb355, tb356, tb357⟩
set_option maxRecDepth 20000 in
theorem cbX8_drop : xa_CB mX8_drop 1 := ⟨tb2, tb1033, by decide +kernel, by decide +kernel, by decide +kernel⟩
set_option maxRecDepth 20000 in
theorem lcL_31 : xa_CV RL 31 mX8_drop 1 := ⟨cbX8_drop, tb1030, tb1031, tb1032⟩
set_option maxRecDepth 20000 in
theorem cbX7_change : xa_CB mX7_change 2 := ⟨tb1, tb374, by decide +kernel, by decide +kernel, by decide +kernel⟩
set_option maxRecDepth 20000 in
theorem lcL_32 : xa_CV RL 32 mX7_change 2 := ⟨cbX7_change, tb371, tb372, tb373⟩
set_option maxRecDepth 20000 in
theorem cbX8_change : xa_CB mX8_change 2 := ⟨tb2, tb1049, by decide +kernel, by decide +kernel, by decide +kernel⟩
set_option maxRecDepth 20000 in
theorem lcL_36 : xa_CV RL 36 mX8_change 2 := ⟨cbX8_change, tb1046, tb1047, tb1048⟩
set_option maxRecDepth 20000 in
theorem cbX7_ask : xa_CB mX7_ask 3 := ⟨tb1, tb378, by decide +kernel, by decide +kernel, by decide +kernel⟩
set_option maxRecDepth 20000 in
theorem lcL_37 : xa_CV RL 37 mX7_ask 3 := ⟨cbX7_ask, tb375, tb376, tb377⟩
set_option maxRecDepth 20000 in
theorem cbX8_ask : xa_CB mX8_ask 3 := ⟨tb2, tb1053, by decide +kernel, by decide +kernel, by decide +kernel⟩
set_option maxRecDepth 20000 in
theorem lcL_41 : xa_CV RL 41 mX8_ask 3 := ⟨cbX8_ask, tb1050, tb1051, tb1052⟩
set_option maxRecDepth 20000 in
theorem cbX7_sleep : xa_CB mX7_sleep 2 := ⟨tb1, tb397, by decide +kernel, by decide +kernel, by decide +kernel⟩
set_option maxRecDepth 20000 in
theorem lcL_42 : xa_CV RL 42 mX7_sleep 2 := ⟨cbX7_sleep, tb394, tb395, tb396⟩
set_option maxRecDepth 20000 in
theorem cbX8_sleep : xa_CB mX8_sleep 2 := ⟨tb2, tb1060, by decide +kernel, by decide +kernel, by decide +kernel⟩
set_option maxRecDepth 20000 in
theorem lcL_45 : xa_CV RL 45 mX8_sleep 2 := ⟨cbX8_sleep, tb1057, tb1058, tb1059⟩
set_option maxRecDepth 20000 in
theorem cbX7_wake : xa_CB mX7_wake 1 := ⟨tb1, tb401, by decide +kernel, by decide +kernel, by decide +kernel⟩
set_option maxRecDepth 20000 in
theorem lcL_46 : xa_CV RL 46 mX7_wake 1 := ⟨cbX7_wake, tb398, tb399, tb400⟩
set_option maxRecDepth 20000 in
theorem cbX8_wake : xa_CB mX8_wake 1 := ⟨tb2, tb1064, by decide +kernel, by decide +kernel, by decide +kernel⟩
set_option maxRecDepth 20000 in
theorem lcL_49 : xa_CV RL 49 mX8_wake 1 := ⟨cbX8_wake, tb1061, tb1062, tb1063⟩
set_option maxRecDepth 20000 in
theorem cbX7_fall : xa_CB mX7_fall 1 := ⟨tb1, tb405, by decide +kernel, by decide +kernel, by decide +kernel⟩
set_option maxRecDepth 20000 in
theorem lcL_50 : xa_CV RL 50 mX7_fall 1 := ⟨cbX7_fall, tb402, tb403, tb404⟩
set_option maxRecDepth 20000 in
theorem cbX8_fall : xa_CB mX8_fall 1 := ⟨tb2, tb1072, by decide +kernel, by decide +kernel, by decide +kernel⟩
set_option maxRecDepth 20000 in
theorem lcL_53 : xa_CV RL 53 mX8_fall 1 := ⟨cbX8_fall, tb1069, tb1070, tb1071⟩
set_option maxRecDepth 20000 in
theorem cbX7_leave : xa_CB mX7_leave 1 := ⟨tb1, tb425, by decide +kernel, by decide +kernel, by decide +kernel⟩
set_option maxRecDepth 20000 in
theorem lcL_54 : xa_CV RL 54 mX7_leave 1 := ⟨cbX7_leave, tb422, tb423, tb424⟩
set_option maxRecDepth 20000 in
theorem cbX8_leave : xa_CB mX8_leave 1 := ⟨tb2, tb1088, by decide +kernel, by decide +kernel, by decide +kernel⟩
set_option maxRecDepth 20000 in
theorem lcL_57 : xa_CV RL 57 mX8_leave 1 := ⟨cbX8_leave, tb1085, tb1086, tb1087⟩
set_option maxRecDepth 20000 in
theorem cbX7_keeper : xa_CB mX7_keeper 2 := ⟨tb1, tb433, by decide +kernel, by decide +kernel, by decide +kernel⟩
set_option maxRecDepth 20000 in
theorem lcL_58 : xa_CV RL 58 mX7_keeper 2 := ⟨cbX7_keeper, tb430, tb431, tb432⟩
set_option maxRecDepth 20000 in
theorem cbX8_keeper : xa_CB mX8_keeper 2 := ⟨tb2, tb1092, by decide +kernel, by decide +kernel, by decide +kernel⟩
set_option maxRecDepth 20000 in
theorem lcL_62 : xa_CV RL 62 mX8_keeper 2 := ⟨cbX8_keeper, tb1089, tb1090, tb1091⟩
set_option maxRecDepth 20000 in
theorem cbX7_bridge : xa_CB mX7_bridge 3 := ⟨tb1, tb437, by decide +kernel, by decide +kernel, by decide +kernel⟩
set_option maxRecDepth 20000 in
theorem lcL_63 : xa_CV RL 63 mX7_bridge 3 := ⟨cbX7_bridge, tb434, tb435, tb436⟩
set_option maxRecDepth 20000 in
theorem cbX8_bridge : xa_CB mX8_bridge 3 := ⟨tb2, tb1096, by decide +kernel, by decide +kernel, by decide +kernel⟩
set_option maxRecDepth 20000 in
theorem lcL_66 : xa_CV RL 66 mX8_bridge 3 := ⟨cbX8_bridge, tb1093, tb1094, tb1095⟩
set_option maxRecDepth 20000 in
theorem cbX7_lose : xa_CB mX7_lose 2 := ⟨tb1, tb486, by decide +kernel, by decide +kernel, by decide +kernel⟩
set_option maxRecDepth 20000 in
theorem lcL_67 : xa_CV RL 67 mX7_lose 2 := ⟨cbX7_lose, tb483, tb484, tb485⟩
set_option maxRecDepth 20000 in
theorem cbX8_lose : xa_CB mX8_lose 2 := ⟨tb2, tb1101, by decide +kernel, by decide +kernel, by decide +kernel⟩
set_option maxRecDepth 20000 in
theorem lcL_70 : xa_CV RL 70 mX8_lose 2 := ⟨cbX8_lose, tb1098, tb1099, tb1100⟩
set_option maxRecDepth 20000 in
theorem cbX7_deaf : xa_CB mX7_deaf 2 := ⟨tb1, tb490, by decide +kernel, by decide +kernel, by decide +kernel⟩
set_option maxRecDepth 20000 in
theorem lcL_71 : xa_CV RL 71 mX7_deaf 2 := ⟨cbX7_deaf, tb487, tb488, tb489⟩
set_option maxRecDepth 20000 in
theorem cbX8_deaf : xa_CB mX8_deaf 2 := ⟨tb2, tb1105, by decide +kernel, by decide +kernel, by decide +kernel⟩
set_option maxRecDepth 20000 in
theorem lcL_74 : xa_CV RL 74 mX8_deaf 2 := ⟨cbX8_deaf, tb1102, tb1103, tb1104⟩
set_option maxRecDepth 20000 in
theorem cbX7_join : xa_CB mX7_join 2 := ⟨tb1, tb494, by decide +kernel, by decide +kernel, by decide +kernel⟩
set_option maxRecDepth 20000 in
theorem lcL_75 : xa_CV RL 75 mX7_join 2 := ⟨cbX7_join, tb491, tb492, tb493⟩
set_option maxRecDepth 20000 in
theorem cbX8_join : xa_CB mX8_join 2 := ⟨tb2, tb1109, by decide +kernel, by decide +kernel, by decide +kernel⟩
set_option maxRecDepth 20000 in
theorem lcL_78 : xa_CV RL 78 mX8_join 2 := ⟨cbX8_join, tb1106, tb1107, tb1108⟩
set_option maxRecDepth 20000 in
theorem cbX7_tick : xa_CB mX7_tick 1 := ⟨tb1, tb502, by decide +kernel, by decide +kernel, by decide +kernel⟩
set_option maxRecDepth 20000 in
theorem lcL_79 : xa_CV RL 79 mX7_tick 1 := ⟨cbX7_tick, tb499, tb500, tb501⟩
set_option maxRecDepth 20000 in
theorem cbX8_tick : xa_CB mX8_tick 1 := ⟨tb2, tb1113, by decide +kernel, by decide +kernel, by decide +kernel⟩
set_option maxRecDepth 20000 in
theorem lcL_83 : xa_CV RL 83 mX8_tick 1 := ⟨cbX8_tick, tb1110, tb1111, tb1112⟩
set_option maxRecDepth 20000 in
theorem cbX7_find : xa_CB mX7_find 4 := ⟨tb1, tb747, by decide +kernel, by decide +kernel, by decide +kernel⟩
set_option maxRecDepth 20000 in
theorem lcL_84 : xa_CV RL 84 mX7_find 4 := ⟨cbX7_find, tb744, tb745, tb746⟩
set_option maxRecDepth 20000 in
theorem cbX8_find : xa_CB mX8_find 4 := ⟨tb2, tb1201, by decide +kernel, by decide +kernel, by decide +kernel⟩
set_option maxRecDepth 20000 in
theorem lcL_87 : xa_CV RL 87 mX8_find 4 := ⟨cbX8_find, tb1198, tb1199, tb1200⟩
set_option maxRecDepth 20000 in
theorem cbX7_record : xa_CB mX7_record 3 := ⟨tb1, tb755, by decide +kernel, by decide +kernel, by decide +kernel⟩
set_option maxRecDepth 20000 in
theorem lcL_88 : xa_CV RL 88 mX7_record 3 := ⟨cbX7_record, tb752, tb753, tb754⟩
set_option maxRecDepth 20000 in
theorem cbX8_record : xa_CB mX8_record 3 := ⟨tb2, tb1205, by decide +kernel, by decide +kernel, by decide +kernel⟩
set_option maxRecDepth 20000 in
theorem lcL_92 : xa_CV RL 92 mX8_record 3 := ⟨cbX8_record, tb1202, tb1203, tb1204⟩
set_option maxRecDepth 20000 in
theorem cbX7_service : xa_CB mX7_service 2 := ⟨tb1, tb759, by decide +kernel, by decide +kernel, by decide +kernel⟩
set_option maxRecDepth 20000 in
theorem lcL_93 : xa_CV RL 93 mX7_service 2 := ⟨cbX7_service, tb756, tb757, tb758⟩
set_option maxRecDepth 20000 in
theorem cbX8_service : xa_CB mX8_service 2 := ⟨tb2, tb1209, by decide +kernel, by decide +kernel, by decide +kernel⟩
set_option maxRecDepth 20000 in
theorem lcL_97 : xa_CV RL 97 mX8_service 2 := ⟨cbX8_service, tb1206, tb1207, tb1208⟩
set_option maxRecDepth 20000 in
theorem cbX7_look : xa_CB mX7_look 2 := ⟨tb1, tb763, by decide +kernel, by decide +kernel, by decide +kernel⟩
set_option maxRecDepth 20000 in
theorem lcL_98 : xa_CV RL 98 mX7_look 2 := ⟨cbX7_look, tb760, tb761, tb762⟩
set_option maxRecDepth 20000 in
theorem cbX8_look : xa_CB mX8_look 2 := ⟨tb2, tb1213, by decide +kernel, by decide +kernel, by decide +kernel⟩
set_option maxRecDepth 20000 in
theorem lcL_101 : xa_CV RL 101 mX8_look 2 := ⟨cbX8_look, tb1210, tb1211, tb1212⟩
set_option maxRecDepth 20000 in
theorem cbX7_reach : xa_CB mX7_reach 2 := ⟨tb1, tb786, by decide +kernel, by decide +kernel, by decide +kernel⟩
set_option maxRecDepth 20000 in
theorem lcL_102 : xa_CV RL 102 mX7_reach 2 := ⟨cbX7_reach, tb783, tb784, tb785⟩
set_option maxRecDepth 20000 in
theorem cbX8_reach : xa_CB mX8_reach 2 := ⟨tb2, tb1217, by decide +kernel, by decide +kernel, by decide +kernel⟩
set_option maxRecDepth 20000 in
theorem lcL_105 : xa_CV RL 105 mX8_reach 2 := ⟨cbX8_reach, tb1214, tb1215, tb1216⟩
set_option maxRecDepth 20000 in
theorem cbX7_twice : xa_CB mX7_twice 1 := ⟨tb1, tb790, by decide +kernel, by decide +kernel, by decide +kernel⟩
set_option maxRecDepth 20000 in
theorem lcL_106 : xa_CV RL 106 mX7_twice 1 := ⟨cbX7_twice, tb787, tb788, tb789⟩
set_option maxRecDepth 20000 in
theorem cbX8_twice : xa_CB mX8_twice 1 := ⟨tb2, tb1221, by decide +kernel, by decide +kernel, by decide +kernel⟩
set_option maxRecDepth 20000 in
theorem lcL_109 : xa_CV RL 109 mX8_twice 1 := ⟨cbX8_twice, tb1218, tb1219, tb1220⟩
set_option maxRecDepth 20000 in
theorem cbX7_count : xa_CB mX7_count 1 := ⟨tb1, tb798, by decide +kernel, by decide +kernel, by decide +kernel⟩
set_option maxRecDepth 20000 in
theorem lcL_110 : xa_CV RL 110 mX7_count 1 := ⟨cbX7_count, tb795, tb796, tb797⟩
set_option maxRecDepth 20000 in
theorem cbX8_count : xa_CB mX8_count 1 := ⟨tb2, tb1229, by decide +kernel, by decide +kernel, by decide +kernel⟩
set_option maxRecDepth 20000 in
theorem lcL_113 : xa_CV RL 113 mX8_count 1 := ⟨cbX8_count, tb1226, tb1227, tb1228⟩
set_option maxRecDepth 20000 in
theorem loX8_3 : Cond.methodLink RX8 3 objectInit ∈ xa_G := tb804
set_option maxRecDepth 20000 in
theorem cbX8_in : xa_CB mX8_in 3 := ⟨tb2, tb993, by decide +kernel, by decide +kernel, by decide +kernel⟩
set_option maxRecDepth 20000 in
theorem lcX8_159 : xa_CS RX8 159 mX8_in 3 := ⟨cbX8_in, tb991, tb992⟩
set_option maxRecDepth 20000 in
theorem cbX8_isHost : xa_CB mX8_isHost 1 := ⟨tb2, tb1013, by decide +kernel, by decide +kernel, by decide +kernel⟩
set_option maxRecDepth 20000 in
theorem lcX8_163 : xa_CV RX8 163 mX8_isHost 1 := ⟨cbX8_isHost, tb1010, tb1012, (xa_gs 42 rfl rfl)⟩
set_option maxRecDepth 20000 in
theorem cbX8_isAwake : xa_CB mX8_isAwake 1 := ⟨tb2, tb1009, by decide +kernel, by decide +kernel, by decide +kernel⟩
set_option maxRecDepth 20000 in
theorem lcX8_167 : xa_CV RX8 167 mX8_isAwake 1 := ⟨cbX8_isAwake, tb1006, tb1008, (xa_gs 41 rfl rfl)⟩
set_option maxRecDepth 20000 in
theorem cbX8_isUp : xa_CB mX8_isUp 1 := ⟨tb2, tb1005, by decide +kernel, by decide +kernel, by decide +kernel⟩
set_option maxRecDepth 20000 in
theorem lcX8_173 : xa_CV RX8 173 mX8_isUp 1 := ⟨cbX8_isUp, tb1002, tb1004, (xa_gs 40 rfl rfl)⟩
set_option maxRecDepth 20000 in
theorem cbX8_many : xa_CB mX8_many 1 := ⟨tb2, tb1017, by decide +kernel, by decide +kernel, by decide +kernel⟩
set_option maxRecDepth 20000 in
theorem lcX8_176 : xa_CV RX8 176 mX8_many 1 := ⟨cbX8_many, tb1014, tb1016, (xa_gs 43 rfl rfl)⟩
set_option maxRecDepth 20000 in
theorem cbX8_mayOffer : xa_CB mX8_mayOffer 4 := ⟨tb2, tb1001, by decide +kernel, by decide +kernel, by decide +kernel⟩
set_option maxRecDepth 20000 in
theorem lcX8_180 : xa_CV RX8 180 mX8_mayOffer 4 := ⟨cbX8_mayOffer, tb998, tb1000, (xa_gs 39 rfl rfl)⟩
set_option maxRecDepth 20000 in
theorem cbX8_isNamed : xa_CB mX8_isNamed 3 := ⟨tb2, tb1021, by decide +kernel, by decide +kernel, by decide +kernel⟩
set_option maxRecDepth 20000 in
theorem lcX8_184 : xa_CV RX8 184 mX8_isNamed 3 := ⟨cbX8_isNamed, tb1018, tb1020, (xa_gs 44 rfl rfl)⟩
set_option maxRecDepth 20000 in
theorem cbX8_comes : xa_CB mX8_comes 5 := ⟨tb2, tb1025, by decide +kernel, by decide +kernel, by decide +kernel⟩
set_option maxRecDepth 20000 in
theorem lcX8_187 : xa_CV RX8 187 mX8_comes 5 := ⟨cbX8_comes, tb1022, tb1024, (xa_gs 45 rfl rfl)⟩
set_option maxRecDepth 20000 in
theorem cbX8_isService : xa_CB mX8_isService 1 := ⟨tb2, tb1041, by decide +kernel, by decide +kernel, by decide +kernel⟩
set_option maxRecDepth 20000 in
theorem lcX8_194 : xa_CV RX8 194 mX8_isService 1 := ⟨cbX8_isService, tb1038, tb1040, (xa_gs 47 rfl rfl)⟩
set_option maxRecDepth 20000 in
theorem cbX8_isOpen : xa_CB mX8_isOpen 1 := ⟨tb2, tb1037, by decide +kernel, by decide +kernel, by decide +kernel⟩
set_option maxRecDepth 20000 in
theorem lcX8_197 : xa_CV RX8 197 mX8_isOpen 1 := ⟨cbX8_isOpen, tb1034, tb1036, (xa_gs 46 rfl rfl)⟩
set_option maxRecDepth 20000 in
theorem cbX8_goes : xa_CB mX8_goes 2 := ⟨tb2, tb1045, by decide +kernel, by decide +kernel, by decide +kernel⟩
set_option maxRecDepth 20000 in
theorem lcX8_200 : xa_CV RX8 200 mX8_goes 2 := ⟨cbX8_goes, tb1042, tb1044, (xa_gs 48 rfl rfl)⟩
set_option maxRecDepth 20000 in
theorem cbX8_lot : xa_CB mX8_lot 2 := ⟨tb2, tb1056, by decide +kernel, by decide +kernel, by decide +kernel⟩
set_option maxRecDepth 20000 in
theorem lcX8_204 : xa_CS RX8 204 mX8_lot 2 := ⟨cbX8_lot, tb1054, tb1055⟩
set_option maxRecDepth 20000 in
theorem cbX8_wakes : xa_CB mX8_wakes 1 := ⟨tb2, tb1068, by decide +kernel, by decide +kernel, by decide +kernel⟩
set_option maxRecDepth 20000 in
theorem lcX8_208 : xa_CV RX8 208 mX8_wakes 1 := ⟨cbX8_wakes, tb1065, tb1067, (xa_gs 49 rfl rfl)⟩
set_option maxRecDepth 20000 in
theorem cbX8_empties : xa_CB mX8_empties 1 := ⟨tb2, tb1080, by decide +kernel, by decide +kernel, by decide +kernel⟩
set_option maxRecDepth 20000 in
theorem lcX8_212 : xa_CV RX8 212 mX8_empties 1 := ⟨cbX8_empties, tb1077, tb1079, (xa_gs 51 rfl rfl)⟩
set_option maxRecDepth 20000 in
theorem cbX8_clears : xa_CB mX8_clears 1 := ⟨tb2, tb1084, by decide +kernel, by decide +kernel, by decide +kernel⟩
set_option maxRecDepth 20000 in
theorem lcX8_215 : xa_CV RX8 215 mX8_clears 1 := ⟨cbX8_clears, tb1081, tb1083, (xa_gs 52 rfl rfl)⟩
set_option maxRecDepth 20000 in
theorem cbX8_isGone : xa_CB mX8_isGone 1 := ⟨tb2, tb1076, by decide +kernel, by decide +kernel, by decide +kernel⟩
set_option maxRecDepth 20000 in
theorem lcX8_218 : xa_CV RX8 218 mX8_isGone 1 := ⟨cbX8_isGone, tb1073, tb1075, (xa_gs 50 rfl rfl)⟩
set_option maxRecDepth 20000 in
theorem cbX8_isBare : xa_CB mX8_isBare 1 := ⟨tb2, tb1133, by decide +kernel, by decide +kernel, by decide +kernel⟩
set_option maxRecDepth 20000 in
theorem lcX8_228 : xa_CV RX8 228 mX8_isBare 1 := ⟨cbX8_isBare, tb1130, tb1132, (xa_gs 57 rfl rfl)⟩
set_option maxRecDepth 20000 in
theorem cbX8_oneTick : xa_CB mX8_oneTick 1 := ⟨tb2, tb1117, by decide +kernel, by decide +kernel, by decide +kernel⟩
set_option maxRecDepth 20000 in
theorem lcX8_240 : xa_CV RX8 240 mX8_oneTick 1 := ⟨cbX8_oneTick, tb1114, tb1116, (xa_gs 53 rfl rfl)⟩
set_option maxRecDepth 20000 in
theorem cbX8_writesAll : xa_CB mX8_writesAll 2 := ⟨tb2, tb1121, by decide +kernel, by decide +kernel, by decide +kernel⟩
set_option maxRecDepth 20000 in
theorem lcX8_243 : xa_CV RX8 243 mX8_writesAll 2 := ⟨cbX8_writesAll, tb1118, tb1120, (xa_gs 54 rfl rfl)⟩
set_option maxRecDepth 20000 in
theorem cbX8_isHeard : xa_CB mX8_isHeard 2 := ⟨tb2, tb1157, by decide +kernel, by decide +kernel, by decide +kernel⟩
set_option maxRecDepth 20000 in
theorem lcX8_247 : xa_CV RX8 247 mX8_isHeard 2 := ⟨cbX8_isHeard, tb1154, tb1156, (xa_gs 63 rfl rfl)⟩
set_option maxRecDepth 20000 in
theorem cbX8_byes : xa_CB mX8_byes 1 := ⟨tb2, tb1125, by decide +kernel, by decide +kernel, by decide +kernel⟩
set_option maxRecDepth 20000 in
theorem lcX8_250 : xa_CV RX8 250 mX8_byes 1 := ⟨cbX8_byes, tb1122, tb1124, (xa_gs 55 rfl rfl)⟩
set_option maxRecDepth 20000 in
theorem cbX8_writes : xa_CB mX8_writes 2 := ⟨tb2, tb1129, by decide +kernel, by decide +kernel, by decide +kernel⟩
set_option maxRecDepth 20000 in
theorem lcX8_253 : xa_CV RX8 253 mX8_writes 2 := ⟨cbX8_writes, tb1126, tb1128, (xa_gs 56 rfl rfl)⟩
set_option maxRecDepth 20000 in
theorem cbX8_takesUp : xa_CB mX8_takesUp 3 := ⟨tb2, tb1137, by decide +kernel, by decide +kernel, by decide +kernel⟩
set_option maxRecDepth 20000 in
theorem lcX8_256 : xa_CV RX8 256 mX8_takesUp 3 := ⟨cbX8_takesUp, tb1134, tb1136, (xa_gs 58 rfl rfl)⟩
set_option maxRecDepth 20000 in
theorem cbX8_asks : xa_CB mX8_asks 2 := ⟨tb2, tb1141, by decide +kernel, by decide +kernel, by decide +kernel⟩
set_option maxRecDepth 20000 in
theorem lcX8_260 : xa_CV RX8 260 mX8_asks 2 := ⟨cbX8_asks, tb1138, tb1140, (xa_gs 59 rfl rfl)⟩
set_option maxRecDepth 20000 in
theorem cbX8_tells : xa_CB mX8_tells 2 := ⟨tb2, tb1149, by decide +kernel, by decide +kernel, by decide +kernel⟩
set_option maxRecDepth 20000 in
theorem lcX8_263 : xa_CV RX8 263 mX8_tells 2 := ⟨cbX8_tells, tb1146, tb1148, (xa_gs 61 rfl rfl)⟩
set_option maxRecDepth 20000 in
theorem cbX8_knownTo : xa_CB mX8_knownTo 3 := ⟨tb2, tb1145, by decide +kernel, by decide +kernel, by decide +kernel⟩
set_option maxRecDepth 20000 in
theorem lcX8_266 : xa_CV RX8 266 mX8_knownTo 3 := ⟨cbX8_knownTo, tb1142, tb1144, (xa_gs 60 rfl rfl)⟩
set_option maxRecDepth 20000 in
theorem cbX8_speaksFor : xa_CB mX8_speaksFor 2 := ⟨tb2, tb1153, by decide +kernel, by decide +kernel, by decide +kernel⟩
set_option maxRecDepth 20000 in
theorem lcX8_270 : xa_CV RX8 270 mX8_speaksFor 2 := ⟨cbX8_speaksFor, tb1150, tb1152, (xa_gs 62 rfl rfl)⟩
set_option maxRecDepth 20000 in
theorem cbX8_carries : xa_CB mX8_carries 2 := ⟨tb2, tb1161, by decide +kernel, by decide +kernel, by decide +kernel⟩
set_option maxRecDepth 20000 in
theorem lcX8_277 : xa_CV RX8 277 mX8_carries 2 := ⟨cbX8_carries, tb1158, tb1160, (xa_gs 64 rfl rfl)⟩
set_option maxRecDepth 20000 in
theorem cbX8_hears : xa_CB mX8_hears 3 := ⟨tb2, tb1169, by decide +kernel, by decide +kernel, by decide +kernel⟩
set_option maxRecDepth 20000 in
theorem lcX8_280 : xa_CV RX8 280 mX8_hears 3 := ⟨cbX8_hears, tb1166, tb1168, (xa_gs 66 rfl rfl)⟩
set_option maxRecDepth 20000 in
theorem cbX8_isCarried : xa_CB mX8_isCarried 4 := ⟨tb2, tb1165, by decide +kernel, by decide +kernel, by decide +kernel⟩
set_option maxRecDepth 20000 in
theorem lcX8_283 : xa_CV RX8 283 mX8_isCarried 4 := ⟨cbX8_isCarried, tb1162, tb1164, (xa_gs 65 rfl rfl)⟩
set_option maxRecDepth 20000 in
theorem cbX8_hearsAsk : xa_CB mX8_hearsAsk 4 := ⟨tb2, tb1173, by decide +kernel, by decide +kernel, by decide +kernel⟩
set_option maxRecDepth 20000 in
theorem lcX8_289 : xa_CV RX8 289 mX8_hearsAsk 4 := ⟨cbX8_hearsAsk, tb1170, tb1172, (xa_gs 67 rfl rfl)⟩
set_option maxRecDepth 20000 in
theorem cbX8_hearsClaim : xa_CB mX8_hearsClaim 4 := ⟨tb2, tb1185, by decide +kernel, by decide +kernel, by decide +kernel⟩
set_option maxRecDepth 20000 in
theorem lcX8_293 : xa_CV RX8 293 mX8_hearsClaim 4 := ⟨cbX8_hearsClaim, tb1182, tb1184, (xa_gs 70 rfl rfl)⟩
set_option maxRecDepth 20000 in
theorem cbX8_hearsTelling : xa_CB mX8_hearsTelling 4 := ⟨tb2, tb1197, by decide +kernel, by decide +kernel, by decide +kernel⟩
set_option maxRecDepth 20000 in
theorem lcX8_296 : xa_CV RX8 296 mX8_hearsTelling 4 := ⟨cbX8_hearsTelling, tb1194, tb1196, (xa_gs 73 rfl rfl)⟩
set_option maxRecDepth 20000 in
theorem cbX8_keeperOn : xa_CB mX8_keeperOn 2 := ⟨tb2, tb1177, by decide +kernel, by decide +kernel, by decide +kernel⟩
set_option maxRecDepth 20000 in
theorem lcX8_299 : xa_CV RX8 299 mX8_keeperOn 2 := ⟨cbX8_keeperOn, tb1174, tb1176, (xa_gs 68 rfl rfl)⟩
set_option maxRecDepth 20000 in
theorem cbX8_isDue : xa_CB mX8_isDue 3 := ⟨tb2, tb1181, by decide +kernel, by decide +kernel, by decide +kernel⟩
set_option maxRecDepth 20000 in
theorem lcX8_302 : xa_CV RX8 302 mX8_isDue 3 := ⟨cbX8_isDue, tb1178, tb1180, (xa_gs 69 rfl rfl)⟩
set_option maxRecDepth 20000 in
theorem cbX8_isStronger : xa_CB mX8_isStronger 2 := ⟨tb2, tb1189, by decide +kernel, by decide +kernel, by decide +kernel⟩
set_option maxRecDepth 20000 in
theorem lcX8_305 : xa_CV RX8 305 mX8_isStronger 2 := ⟨cbX8_isStronger, tb1186, tb1188, (xa_gs 71 rfl rfl)⟩
set_option maxRecDepth 20000 in
theorem cbX8_yieldsName : xa_CB mX8_yieldsName 1 := ⟨tb2, tb1193, by decide +kernel, by decide +kernel, by decide +kernel⟩
set_option maxRecDepth 20000 in
theorem lcX8_308 : xa_CV RX8 308 mX8_yieldsName 1 := ⟨cbX8_yieldsName, tb1190, tb1192, (xa_gs 72 rfl rfl)⟩
set_option maxRecDepth 20000 in
theorem cbX8_isSpoken : xa_CB mX8_isSpoken 2 := ⟨tb2, tb1225, by decide +kernel, by decide +kernel, by decide +kernel⟩
set_option maxRecDepth 20000 in
theorem lcX8_317 : xa_CV RX8 317 mX8_isSpoken 2 := ⟨cbX8_isSpoken, tb1222, tb1224, (xa_gs 74 rfl rfl)⟩
set_option maxRecDepth 20000 in
theorem llX7_9 : Cond.classLink RX7 9 "WhoIsThere$Host" ∈ xa_G := tb19
set_option maxRecDepth 20000 in
theorem lnX7_9 : xa_NC RX7 9 3 := ⟨_, _, _, tyX3, rfl, rfl, inX3, tyX3_ok, by decide +kernel, tb19, tb70, tb3⟩
set_option maxRecDepth 20000 in
theorem llX7_15 : Cond.classLink RX7 15 "WhoIsThere$Service" ∈ xa_G := tb21
set_option maxRecDepth 20000 in
theorem lnX7_15 : xa_NC RX7 15 5 := ⟨_, _, _, tyX5, rfl, rfl, inX5, tyX5_ok, by decide +kernel, tb21, tb293, tb8⟩
set_option maxRecDepth 20000 in
theorem llX7_150 : Cond.classLink RX7 150 "WhoIsThere$Bridge" ∈ xa_G := tb453
set_option maxRecDepth 20000 in
theorem lnX7_150 : xa_NC RX7 150 2 := ⟨_, _, _, tyX2, rfl, rfl, inX2, tyX2_ok, by decide +kernel, tb453, tb454, tb9⟩
set_option maxRecDepth 20000 in
theorem llX2_7 : Cond.classLink RX2 7 "WhoIsThere$Letter" ∈ xa_G := tb459
set_option maxRecDepth 20000 in
theorem lnX2_7 : xa_NC RX2 7 4 := ⟨_, _, _, tyX4, rfl, rfl, inX4, tyX4_ok, by decide +kernel, tb459, tb132, tb7⟩
set_option maxRecDepth 20000 in
theorem llX3_9 : Cond.classLink RX3 9 "WhoIsThere$Store" ∈ xa_G := tb75
set_option maxRecDepth 20000 in
theorem lnX3_9 : xa_NC RX3 9 6 := ⟨_, _, _, tyX6, rfl, rfl, inX6, tyX6_ok, by decide +kernel, tb75, tb76, tb4⟩
set_option maxRecDepth 20000 in
theorem llX3_18 : Cond.classLink RX3 18 "WhoIsThere$Asks" ∈ xa_G := tb101
set_option maxRecDepth 20000 in
theorem lnX3_18 : xa_NC RX3 18 1 := ⟨_, _, _, tyX1, rfl, rfl, inX1, tyX1_ok, by decide +kernel, tb101, tb102, tb5⟩
set_option maxRecDepth 20000 in
theorem llX3_25 : Cond.classLink RX3 25 "WhoIsThere$Answers" ∈ xa_G := tb118
set_option maxRecDepth 20000 in
theorem lnX3_25 : xa_NC RX3 25 0 := ⟨_, _, _, tyX0, rfl, rfl, inX0, tyX0_ok, by decide +kernel, tb118, tb119, tb6⟩
set_option maxRecDepth 20000 in
theorem llX3_36 : Cond.classLink RX3 36 "WhoIsThere$Letter" ∈ xa_G := tb131
set_option maxRecDepth 20000 in
theorem lnX3_36 : xa_NC RX3 36 4 := ⟨_, _, _, tyX4, rfl, rfl, inX4, tyX4_ok, by decide +kernel, tb131, tb132, tb7⟩
set_option maxRecDepth 20000 in
theorem llL_7 : Cond.classLink RL 7 "WhoIsThere" ∈ xa_G := tb11
set_option maxRecDepth 20000 in
theorem lnL_7 : xa_NC RL 7 7 := ⟨_, _, _, tyX7, rfl, rfl, inX7, tyX7_ok, by decide +kernel, tb11, tb12, tb1⟩
set_option maxRecDepth 20000 in
theorem llL_10 : Cond.classLink RL 10 "WhoIsThereModel" ∈ xa_G := tb799
set_option maxRecDepth 20000 in
theorem lnL_10 : xa_NC RL 10 8 := ⟨_, _, _, tyX8, rfl, rfl, inX8, tyX8_ok, by decide +kernel, tb799, tb800, tb2⟩
set_option maxRecDepth 20000 in
theorem lo_im : Cond.instanceMethod objectInit ∈ xa_G := tb17
set_option maxRecDepth 20000 in
theorem lo_cd : Cond.code objectInit ⟨#[0xb1]⟩ 1 none ∈ xa_G := tb18
set_option maxRecDepth 20000 in
theorem la_int : Cond.arrayClass .int ∈ xa_G := tb100
set_option maxRecDepth 20000 in
theorem la_bool : Cond.arrayClass .boolean ∈ xa_G := tb986
set_option maxRecDepth 20000 in
theorem lkX7_122 : Cond.constant RX7 122 65535 ∈ xa_G := tb438
set_option maxRecDepth 20000 in
theorem lkX8_224 : Cond.constant RX8 224 65535 ∈ xa_G := tb1097
set_option maxRecDepth 20000 in
theorem lkJ6_265 : Cond.constant RJ6 265 1431655765 ∈ xa_G := tb629
set_option maxRecDepth 20000 in
theorem lkJ6_266 : Cond.constant RJ6 266 858993459 ∈ xa_G := tb630
set_option maxRecDepth 20000 in
theorem lkJ6_267 : Cond.constant RJ6 267 252645135 ∈ xa_G := tb631
end
section
/-! the instructions, decoded -/
theorem dX0_init_0 : decode cX0_init 0 = .ok (.aload_n 0, 1) := by decide +kernel
theorem dX0_init_1 : decode cX0_init 1 = .ok (.invokespecial 3, 3) := by decide +kernel
theorem dX0_init_4 : decode cX0_init 4 = .ok (.aload_n 0, 1) := by decide +kernel
theorem dX0_init_5 : decode cX0_init 5 = .ok (.bipush 32, 2) := by decide +kernel
theorem dX0_init_7 : decode cX0_init 7 = .ok (.newarray .int, 2) := by decide +kernel
theorem dX0_init_9 : decode cX0_init 9 = .ok (.putfield 9, 3) := by decide +kernel
theorem dX0_init_12 : decode cX0_init 12 = .ok (.return_, 1) := by decide +kernel
theorem dX0_isDue_0 : decode cX0_isDue 0 = .ok (.aload_n 0, 1) := by decide +kernel
theorem dX0_isDue_1 : decode cX0_isDue 1 = .ok (.getfield 15, 3) := by decide +kernel
theorem dX0_isDue_4 : decode cX0_isDue 4 = .ok (.iload_n 1, 1) := by decide +kernel
theorem dX0_isDue_5 : decode cX0_isDue 5 = .ok (.invokestatic 19, 3) := by decide +kernel
theorem dX0_isDue_8 : decode cX0_isDue 8 = .ok (.ifCond .eq 17, 3) := by decide +kernel
theorem dX0_isDue_11 : decode cX0_isDue 11 = .ok (.aload_n 0, 1) := by decide +kernel
theorem dX0_isDue_12 : decode cX0_isDue 12 = .ok (.getfield 9, 3) := by decide +kernel
theorem dX0_isDue_15 : decode cX0_isDue 15 = .ok (.iload_n 1, 1) := by decide +kernel
theorem dX0_isDue_16 : decode cX0_isDue 16 = .ok (.iaload, 1) := by decide +kernel
theorem dX0_isDue_17 : decode cX0_isDue 17 = .ok (.iload_n 2, 1) := by decide +kernel
theorem dX0_isDue_18 : decode cX0_isDue 18 = .ok (.if_icmp .gt 7, 3) := by decide +kernel
theorem dX0_isDue_21 : decode cX0_isDue 21 = .ok (.iconst 1, 1) := by decide +kernel
theorem dX0_isDue_22 : decode cX0_isDue 22 = .ok (.goto 4, 3) := by decide +kernel
theorem dX0_isDue_25 : decode cX0_isDue 25 = .ok (.iconst 0, 1) := by decide +kernel
theorem dX0_isDue_26 : decode cX0_isDue 26 = .ok (.ireturn, 1) := by decide +kernel
theorem dX0_size_0 : decode cX0_size 0 = .ok (.aload_n 0, 1) := by decide +kernel
theorem dX0_size_1 : decode cX0_size 1 = .ok (.getfield 15, 3) := by decide +kernel
theorem dX0_size_4 : decode cX0_size 4 = .ok (.invokestatic 23, 3) := by decide +kernel
theorem dX0_size_7 : decode cX0_size 7 = .ok (.ireturn, 1) := by decide +kernel
theorem dX0_comeDue_0 : decode cX0_comeDue 0 = .ok (.aload_n 0, 1) := by decide +kernel
theorem dX0_comeDue_1 : decode cX0_comeDue 1 = .ok (.getfield 15, 3) := by decide +kernel
theorem dX0_comeDue_4 : decode cX0_comeDue 4 = .ok (.iload_n 1, 1) := by decide +kernel
theorem dX0_comeDue_5 : decode cX0_comeDue 5 = .ok (.invokestatic 19, 3) := by decide +kernel
theorem dX0_comeDue_8 : decode cX0_comeDue 8 = .ok (.ifCond .eq 13, 3) := by decide +kernel
theorem dX0_comeDue_11 : decode cX0_comeDue 11 = .ok (.aload_n 0, 1) := by decide +kernel
theorem dX0_comeDue_12 : decode cX0_comeDue 12 = .ok (.getfield 9, 3) := by decide +kernel
theorem dX0_comeDue_15 : decode cX0_comeDue 15 = .ok (.iload_n 1, 1) := by decide +kernel
theorem dX0_comeDue_16 : decode cX0_comeDue 16 = .ok (.iaload, 1) := by decide +kernel
theorem dX0_comeDue_17 : decode cX0_comeDue 17 = .ok (.iload_n 2, 1) := by decide +kernel
theorem dX0_comeDue_18 : decode cX0_comeDue 18 = .ok (.if_icmp .le 22, 3) := by decide +kernel
theorem dX0_comeDue_21 : decode cX0_comeDue 21 = .ok (.aload_n 0, 1) := by decide +kernel
theorem dX0_comeDue_22 : decode cX0_comeDue 22 = .ok (.dup, 1) := by decide +kernel
theorem dX0_comeDue_23 : decode cX0_comeDue 23 = .ok (.getfield 15, 3) := by decide +kernel
theorem dX0_comeDue_26 : decode cX0_comeDue 26 = .ok (.iconst 1, 1) := by decide +kernel
theorem dX0_comeDue_27 : decode cX0_comeDue 27 = .ok (.iload_n 1, 1) := by decide +kernel
theorem dX0_comeDue_28 : decode cX0_comeDue 28 = .ok (.ishl, 1) := by decide +kernel
theorem dX0_comeDue_29 : decode cX0_comeDue 29 = .ok (.ior, 1) := by decide +kernel
theorem dX0_comeDue_30 : decode cX0_comeDue 30 = .ok (.putfield 15, 3) := by decide +kernel
theorem dX0_comeDue_33 : decode cX0_comeDue 33 = .ok (.aload_n 0, 1) := by decide +kernel
theorem dX0_comeDue_34 : decode cX0_comeDue 34 = .ok (.getfield 9, 3) := by decide +kernel
theorem dX0_comeDue_37 : decode cX0_comeDue 37 = .ok (.iload_n 1, 1) := by decide +kernel
theorem dX0_comeDue_38 : decode cX0_comeDue 38 = .ok (.iload_n 2, 1) := by decide +kernel
theorem dX0_comeDue_39 : decode cX0_comeDue 39 = .ok (.iastore, 1) := by decide +kernel
theorem dX0_comeDue_40 : decode cX0_comeDue 40 = .ok (.return_, 1) := by decide +kernel
theorem dX0_remove_0 : decode cX0_remove 0 = .ok (.aload_n 0, 1) := by decide +kernel
theorem dX0_remove_1 : decode cX0_remove 1 = .ok (.dup, 1) := by decide +kernel
theorem dX0_remove_2 : decode cX0_remove 2 = .ok (.getfield 15, 3) := by decide +kernel
theorem dX0_remove_5 : decode cX0_remove 5 = .ok (.iconst 1, 1) := by decide +kernel
theorem dX0_remove_6 : decode cX0_remove 6 = .ok (.iload_n 1, 1) := by decide +kernel
theorem dX0_remove_7 : decode cX0_remove 7 = .ok (.ishl, 1) := by decide +kernel
theorem dX0_remove_8 : decode cX0_remove 8 = .ok (.iconst (-1), 1) := by decide +kernel
theorem dX0_remove_9 : decode cX0_remove 9 = .ok (.ixor, 1) := by decide +kernel
theorem dX0_remove_10 : decode cX0_remove 10 = .ok (.iand, 1) := by decide +kernel
theorem dX0_remove_11 : decode cX0_remove 11 = .ok (.putfield 15, 3) := by decide +kernel
theorem dX0_remove_14 : decode cX0_remove 14 = .ok (.return_, 1) := by decide +kernel
theorem dX0_clear_0 : decode cX0_clear 0 = .ok (.aload_n 0, 1) := by decide +kernel
theorem dX0_clear_1 : decode cX0_clear 1 = .ok (.iconst 0, 1) := by decide +kernel
theorem dX0_clear_2 : decode cX0_clear 2 = .ok (.putfield 15, 3) := by decide +kernel
theorem dX0_clear_5 : decode cX0_clear 5 = .ok (.return_, 1) := by decide +kernel
theorem dX1_init_0 : decode cX1_init 0 = .ok (.aload_n 0, 1) := by decide +kernel
theorem dX1_init_1 : decode cX1_init 1 = .ok (.invokespecial 3, 3) := by decide +kernel
theorem dX1_init_4 : decode cX1_init 4 = .ok (.aload_n 0, 1) := by decide +kernel
theorem dX1_init_5 : decode cX1_init 5 = .ok (.bipush 16, 2) := by decide +kernel
theorem dX1_init_7 : decode cX1_init 7 = .ok (.newarray .int, 2) := by decide +kernel
theorem dX1_init_9 : decode cX1_init 9 = .ok (.putfield 9, 3) := by decide +kernel
theorem dX1_init_12 : decode cX1_init 12 = .ok (.aload_n 0, 1) := by decide +kernel
theorem dX1_init_13 : decode cX1_init 13 = .ok (.bipush 16, 2) := by decide +kernel
theorem dX1_init_15 : decode cX1_init 15 = .ok (.newarray .int, 2) := by decide +kernel
theorem dX1_init_17 : decode cX1_init 17 = .ok (.putfield 15, 3) := by decide +kernel
theorem dX1_init_20 : decode cX1_init 20 = .ok (.return_, 1) := by decide +kernel
theorem dX1_has_0 : decode cX1_has 0 = .ok (.aload_n 0, 1) := by decide +kernel
theorem dX1_has_1 : decode cX1_has 1 = .ok (.getfield 18, 3) := by decide +kernel
theorem dX1_has_4 : decode cX1_has 4 = .ok (.iload_n 1, 1) := by decide +kernel
theorem dX1_has_5 : decode cX1_has 5 = .ok (.invokestatic 22, 3) := by decide +kernel
theorem dX1_has_8 : decode cX1_has 8 = .ok (.ireturn, 1) := by decide +kernel
theorem dX1_isDue_0 : decode cX1_isDue 0 = .ok (.aload_n 0, 1) := by decide +kernel
theorem dX1_isDue_1 : decode cX1_isDue 1 = .ok (.iload_n 1, 1) := by decide +kernel
theorem dX1_isDue_2 : decode cX1_isDue 2 = .ok (.invokevirtual 26, 3) := by decide +kernel
theorem dX1_isDue_5 : decode cX1_isDue 5 = .ok (.ifCond .eq 17, 3) := by decide +kernel
theorem dX1_isDue_8 : decode cX1_isDue 8 = .ok (.aload_n 0, 1) := by decide +kernel
theorem dX1_isDue_9 : decode cX1_isDue 9 = .ok (.getfield 15, 3) := by decide +kernel
theorem dX1_isDue_12 : decode cX1_isDue 12 = .ok (.iload_n 1, 1) := by decide +kernel
theorem dX1_isDue_13 : decode cX1_isDue 13 = .ok (.iaload, 1) := by decide +kernel
theorem dX1_isDue_14 : decode cX1_isDue 14 = .ok (.iload_n 2, 1) := by decide +kernel
theorem dX1_isDue_15 : decode cX1_isDue 15 = .ok (.if_icmp .gt 7, 3) := by decide +kernel
theorem dX1_isDue_18 : decode cX1_isDue 18 = .ok (.iconst 1, 1) := by decide +kernel
theorem dX1_isDue_19 : decode cX1_isDue 19 = .ok (.goto 4, 3) := by decide +kernel
theorem dX1_isDue_22 : decode cX1_isDue 22 = .ok (.iconst 0, 1) := by decide +kernel
theorem dX1_isDue_23 : decode cX1_isDue 23 = .ok (.ireturn, 1) := by decide +kernel
theorem dX1_isEmpty_0 : decode cX1_isEmpty 0 = .ok (.aload_n 0, 1) := by decide +kernel
theorem dX1_isEmpty_1 : decode cX1_isEmpty 1 = .ok (.getfield 18, 3) := by decide +kernel
theorem dX1_isEmpty_4 : decode cX1_isEmpty 4 = .ok (.ifCond .ne 7, 3) := by decide +kernel
theorem dX1_isEmpty_7 : decode cX1_isEmpty 7 = .ok (.iconst 1, 1) := by decide +kernel
theorem dX1_isEmpty_8 : decode cX1_isEmpty 8 = .ok (.goto 4, 3) := by decide +kernel
theorem dX1_isEmpty_11 : decode cX1_isEmpty 11 = .ok (.iconst 0, 1) := by decide +kernel
theorem dX1_isEmpty_12 : decode cX1_isEmpty 12 = .ok (.ireturn, 1) := by decide +kernel
theorem dX1_size_0 : decode cX1_size 0 = .ok (.aload_n 0, 1) := by decide +kernel
theorem dX1_size_1 : decode cX1_size 1 = .ok (.getfield 18, 3) := by decide +kernel
theorem dX1_size_4 : decode cX1_size 4 = .ok (.invokestatic 30, 3) := by decide +kernel
theorem dX1_size_7 : decode cX1_size 7 = .ok (.ireturn, 1) := by decide +kernel
theorem dX1_put_0 : decode cX1_put 0 = .ok (.aload_n 0, 1) := by decide +kernel
theorem dX1_put_1 : decode cX1_put 1 = .ok (.dup, 1) := by decide +kernel
theorem dX1_put_2 : decode cX1_put 2 = .ok (.getfield 18, 3) := by decide +kernel
theorem dX1_put_5 : decode cX1_put 5 = .ok (.iconst 1, 1) := by decide +kernel
theorem dX1_put_6 : decode cX1_put 6 = .ok (.iload_n 1, 1) := by decide +kernel
theorem dX1_put_7 : decode cX1_put 7 = .ok (.ishl, 1) := by decide +kernel
theorem dX1_put_8 : decode cX1_put 8 = .ok (.ior, 1) := by decide +kernel
theorem dX1_put_9 : decode cX1_put 9 = .ok (.putfield 18, 3) := by decide +kernel
theorem dX1_put_12 : decode cX1_put 12 = .ok (.aload_n 0, 1) := by decide +kernel
theorem dX1_put_13 : decode cX1_put 13 = .ok (.getfield 9, 3) := by decide +kernel
theorem dX1_put_16 : decode cX1_put 16 = .ok (.iload_n 1, 1) := by decide +kernel
theorem dX1_put_17 : decode cX1_put 17 = .ok (.iload_n 2, 1) := by decide +kernel
theorem dX1_put_18 : decode cX1_put 18 = .ok (.iastore, 1) := by decide +kernel
theorem dX1_put_19 : decode cX1_put 19 = .ok (.aload_n 0, 1) := by decide +kernel
theorem dX1_put_20 : decode cX1_put 20 = .ok (.getfield 15, 3) := by decide +kernel
theorem dX1_put_23 : decode cX1_put 23 = .ok (.iload_n 1, 1) := by decide +kernel
theorem dX1_put_24 : decode cX1_put 24 = .ok (.iload_n 3, 1) := by decide +kernel
theorem dX1_put_25 : decode cX1_put 25 = .ok (.iastore, 1) := by decide +kernel
theorem dX1_put_26 : decode cX1_put 26 = .ok (.return_, 1) := by decide +kernel
theorem dX1_remove_0 : decode cX1_remove 0 = .ok (.aload_n 0, 1) := by decide +kernel
theorem dX1_remove_1 : decode cX1_remove 1 = .ok (.dup, 1) := by decide +kernel
theorem dX1_remove_2 : decode cX1_remove 2 = .ok (.getfield 18, 3) := by decide +kernel
theorem dX1_remove_5 : decode cX1_remove 5 = .ok (.iconst 1, 1) := by decide +kernel
theorem dX1_remove_6 : decode cX1_remove 6 = .ok (.iload_n 1, 1) := by decide +kernel
theorem dX1_remove_7 : decode cX1_remove 7 = .ok (.ishl, 1) := by decide +kernel
theorem dX1_remove_8 : decode cX1_remove 8 = .ok (.iconst (-1), 1) := by decide +kernel
theorem dX1_remove_9 : decode cX1_remove 9 = .ok (.ixor, 1) := by decide +kernel
theorem dX1_remove_10 : decode cX1_remove 10 = .ok (.iand, 1) := by decide +kernel
theorem dX1_remove_11 : decode cX1_remove 11 = .ok (.putfield 18, 3) := by decide +kernel
theorem dX1_remove_14 : decode cX1_remove 14 = .ok (.return_, 1) := by decide +kernel
theorem dX1_clear_0 : decode cX1_clear 0 = .ok (.aload_n 0, 1) := by decide +kernel
theorem dX1_clear_1 : decode cX1_clear 1 = .ok (.iconst 0, 1) := by decide +kernel
theorem dX1_clear_2 : decode cX1_clear 2 = .ok (.putfield 18, 3) := by decide +kernel
theorem dX1_clear_5 : decode cX1_clear 5 = .ok (.return_, 1) := by decide +kernel
theorem dX2_init_0 : decode cX2_init 0 = .ok (.aload_n 0, 1) := by decide +kernel
theorem dX2_init_1 : decode cX2_init 1 = .ok (.invokespecial 1, 3) := by decide +kernel
theorem dX2_init_4 : decode cX2_init 4 = .ok (.aload_n 0, 1) := by decide +kernel
theorem dX2_init_5 : decode cX2_init 5 = .ok (.new 7, 3) := by decide +kernel
theorem dX2_init_8 : decode cX2_init 8 = .ok (.dup, 1) := by decide +kernel
theorem dX2_init_9 : decode cX2_init 9 = .ok (.invokespecial 9, 3) := by decide +kernel
theorem dX2_init_12 : decode cX2_init 12 = .ok (.putfield 10, 3) := by decide +kernel
theorem dX2_init_15 : decode cX2_init 15 = .ok (.aload_n 0, 1) := by decide +kernel
theorem dX2_init_16 : decode cX2_init 16 = .ok (.new 7, 3) := by decide +kernel
theorem dX2_init_19 : decode cX2_init 19 = .ok (.dup, 1) := by decide +kernel
theorem dX2_init_20 : decode cX2_init 20 = .ok (.invokespecial 9, 3) := by decide +kernel
theorem dX2_init_23 : decode cX2_init 23 = .ok (.putfield 16, 3) := by decide +kernel
theorem dX2_init_26 : decode cX2_init 26 = .ok (.aload_n 0, 1) := by decide +kernel
theorem dX2_init_27 : decode cX2_init 27 = .ok (.new 7, 3) := by decide +kernel
theorem dX2_init_30 : decode cX2_init 30 = .ok (.dup, 1) := by decide +kernel
theorem dX2_init_31 : decode cX2_init 31 = .ok (.invokespecial 9, 3) := by decide +kernel
theorem dX2_init_34 : decode cX2_init 34 = .ok (.putfield 19, 3) := by decide +kernel
theorem dX2_init_37 : decode cX2_init 37 = .ok (.aload_n 0, 1) := by decide +kernel
theorem dX2_init_38 : decode cX2_init 38 = .ok (.iload_n 1, 1) := by decide +kernel
theorem dX2_init_39 : decode cX2_init 39 = .ok (.putfield 22, 3) := by decide +kernel
theorem dX2_init_42 : decode cX2_init 42 = .ok (.aload_n 0, 1) := by decide +kernel
theorem dX2_init_43 : decode cX2_init 43 = .ok (.iload_n 2, 1) := by decide +kernel
theorem dX2_init_44 : decode cX2_init 44 = .ok (.putfield 26, 3) := by decide +kernel
theorem dX2_init_47 : decode cX2_init 47 = .ok (.return_, 1) := by decide +kernel
theorem dX2_carries_0 : decode cX2_carries 0 = .ok (.aload_n 0, 1) := by decide +kernel
theorem dX2_carries_1 : decode cX2_carries 1 = .ok (.getfield 26, 3) := by decide +kernel
theorem dX2_carries_4 : decode cX2_carries 4 = .ok (.iload_n 1, 1) := by decide +kernel
theorem dX2_carries_5 : decode cX2_carries 5 = .ok (.invokestatic 29, 3) := by decide +kernel
theorem dX2_carries_8 : decode cX2_carries 8 = .ok (.ireturn, 1) := by decide +kernel
theorem dX3_init_0 : decode cX3_init 0 = .ok (.aload_n 0, 1) := by decide +kernel
theorem dX3_init_1 : decode cX3_init 1 = .ok (.invokespecial 3, 3) := by decide +kernel
theorem dX3_init_4 : decode cX3_init 4 = .ok (.aload_n 0, 1) := by decide +kernel
theorem dX3_init_5 : decode cX3_init 5 = .ok (.new 9, 3) := by decide +kernel
theorem dX3_init_8 : decode cX3_init 8 = .ok (.dup, 1) := by decide +kernel
theorem dX3_init_9 : decode cX3_init 9 = .ok (.invokespecial 11, 3) := by decide +kernel
theorem dX3_init_12 : decode cX3_init 12 = .ok (.putfield 12, 3) := by decide +kernel
theorem dX3_init_15 : decode cX3_init 15 = .ok (.aload_n 0, 1) := by decide +kernel
theorem dX3_init_16 : decode cX3_init 16 = .ok (.new 18, 3) := by decide +kernel
theorem dX3_init_19 : decode cX3_init 19 = .ok (.dup, 1) := by decide +kernel
theorem dX3_init_20 : decode cX3_init 20 = .ok (.invokespecial 20, 3) := by decide +kernel
theorem dX3_init_23 : decode cX3_init 23 = .ok (.putfield 21, 3) := by decide +kernel
theorem dX3_init_26 : decode cX3_init 26 = .ok (.aload_n 0, 1) := by decide +kernel
theorem dX3_init_27 : decode cX3_init 27 = .ok (.new 25, 3) := by decide +kernel
theorem dX3_init_30 : decode cX3_init 30 = .ok (.dup, 1) := by decide +kernel
theorem dX3_init_31 : decode cX3_init 31 = .ok (.invokespecial 27, 3) := by decide +kernel
theorem dX3_init_34 : decode cX3_init 34 = .ok (.putfield 28, 3) := by decide +kernel
theorem dX3_init_37 : decode cX3_init 37 = .ok (.aload_n 0, 1) := by decide +kernel
theorem dX3_init_38 : decode cX3_init 38 = .ok (.iconst 2, 1) := by decide +kernel
theorem dX3_init_39 : decode cX3_init 39 = .ok (.putfield 32, 3) := by decide +kernel
theorem dX3_init_42 : decode cX3_init 42 = .ok (.aload_n 0, 1) := by decide +kernel
theorem dX3_init_43 : decode cX3_init 43 = .ok (.new 36, 3) := by decide +kernel
theorem dX3_init_46 : decode cX3_init 46 = .ok (.dup, 1) := by decide +kernel
theorem dX3_init_47 : decode cX3_init 47 = .ok (.invokespecial 38, 3) := by decide +kernel
theorem dX3_init_50 : decode cX3_init 50 = .ok (.putfield 39, 3) := by decide +kernel
theorem dX3_init_53 : decode cX3_init 53 = .ok (.aload_n 0, 1) := by decide +kernel
theorem dX3_init_54 : decode cX3_init 54 = .ok (.iload_n 1, 1) := by decide +kernel
theorem dX3_init_55 : decode cX3_init 55 = .ok (.putfield 43, 3) := by decide +kernel
theorem dX3_init_58 : decode cX3_init 58 = .ok (.aload_n 0, 1) := by decide +kernel
theorem dX3_init_59 : decode cX3_init 59 = .ok (.iload_n 2, 1) := by decide +kernel
theorem dX3_init_60 : decode cX3_init 60 = .ok (.putfield 46, 3) := by decide +kernel
theorem dX3_init_63 : decode cX3_init 63 = .ok (.aload_n 0, 1) := by decide +kernel
theorem dX3_init_64 : decode cX3_init 64 = .ok (.iload_n 3, 1) := by decide +kernel
theorem dX3_init_65 : decode cX3_init 65 = .ok (.putfield 49, 3) := by decide +kernel
theorem dX3_init_68 : decode cX3_init 68 = .ok (.aload_n 0, 1) := by decide +kernel
theorem dX3_init_69 : decode cX3_init 69 = .ok (.iload 4, 2) := by decide +kernel
theorem dX3_init_71 : decode cX3_init 71 = .ok (.putfield 52, 3) := by decide +kernel
theorem dX3_init_74 : decode cX3_init 74 = .ok (.aload_n 0, 1) := by decide +kernel
theorem dX3_init_75 : decode cX3_init 75 = .ok (.iload 5, 2) := by decide +kernel
theorem dX3_init_77 : decode cX3_init 77 = .ok (.putfield 55, 3) := by decide +kernel
theorem dX3_init_80 : decode cX3_init 80 = .ok (.return_, 1) := by decide +kernel
theorem dX3_hasForName_0 : decode cX3_hasForName 0 = .ok (.iload_n 1, 1) := by decide +kernel
theorem dX3_hasForName_1 : decode cX3_hasForName 1 = .ok (.aload_n 0, 1) := by decide +kernel
theorem dX3_hasForName_2 : decode cX3_hasForName 2 = .ok (.getfield 49, 3) := by decide +kernel
theorem dX3_hasForName_5 : decode cX3_hasForName 5 = .ok (.if_icmp .lt 15, 3) := by decide +kernel
theorem dX3_hasForName_8 : decode cX3_hasForName 8 = .ok (.iload_n 1, 1) := by decide +kernel
theorem dX3_hasForName_9 : decode cX3_hasForName 9 = .ok (.aload_n 0, 1) := by decide +kernel
theorem dX3_hasForName_10 : decode cX3_hasForName 10 = .ok (.getfield 52, 3) := by decide +kernel
theorem dX3_hasForName_13 : decode cX3_hasForName 13 = .ok (.if_icmp .gt 7, 3) := by decide +kernel
theorem dX3_hasForName_16 : decode cX3_hasForName 16 = .ok (.iconst 1, 1) := by decide +kernel
theorem dX3_hasForName_17 : decode cX3_hasForName 17 = .ok (.goto 4, 3) := by decide +kernel
theorem dX3_hasForName_20 : decode cX3_hasForName 20 = .ok (.iconst 0, 1) := by decide +kernel
theorem dX3_hasForName_21 : decode cX3_hasForName 21 = .ok (.ireturn, 1) := by decide +kernel
theorem dX3_isOn_0 : decode cX3_isOn 0 = .ok (.aload_n 0, 1) := by decide +kernel
theorem dX3_isOn_1 : decode cX3_isOn 1 = .ok (.getfield 58, 3) := by decide +kernel
theorem dX3_isOn_4 : decode cX3_isOn 4 = .ok (.ifnonnull 17, 3) := by decide +kernel
theorem dX3_isOn_7 : decode cX3_isOn 7 = .ok (.aload_n 0, 1) := by decide +kernel
theorem dX3_isOn_8 : decode cX3_isOn 8 = .ok (.getfield 46, 3) := by decide +kernel
theorem dX3_isOn_11 : decode cX3_isOn 11 = .ok (.iload_n 1, 1) := by decide +kernel
theorem dX3_isOn_12 : decode cX3_isOn 12 = .ok (.if_icmp .ne 7, 3) := by decide +kernel
theorem dX3_isOn_15 : decode cX3_isOn 15 = .ok (.iconst 1, 1) := by decide +kernel
theorem dX3_isOn_16 : decode cX3_isOn 16 = .ok (.goto 4, 3) := by decide +kernel
theorem dX3_isOn_19 : decode cX3_isOn 19 = .ok (.iconst 0, 1) := by decide +kernel
theorem dX3_isOn_20 : decode cX3_isOn 20 = .ok (.ireturn, 1) := by decide +kernel
theorem dX3_isOn_21 : decode cX3_isOn 21 = .ok (.aload_n 0, 1) := by decide +kernel
theorem dX3_isOn_22 : decode cX3_isOn 22 = .ok (.getfield 46, 3) := by decide +kernel
theorem dX3_isOn_25 : decode cX3_isOn 25 = .ok (.aload_n 0, 1) := by decide +kernel
theorem dX3_isOn_26 : decode cX3_isOn 26 = .ok (.getfield 58, 3) := by decide +kernel
theorem dX3_isOn_29 : decode cX3_isOn 29 = .ok (.getfield 62, 3) := by decide +kernel
theorem dX3_isOn_32 : decode cX3_isOn 32 = .ok (.if_icmp .eq 26, 3) := by decide +kernel
theorem dX3_isOn_35 : decode cX3_isOn 35 = .ok (.aload_n 0, 1) := by decide +kernel
theorem dX3_isOn_36 : decode cX3_isOn 36 = .ok (.getfield 46, 3) := by decide +kernel
theorem dX3_isOn_39 : decode cX3_isOn 39 = .ok (.iload_n 1, 1) := by decide +kernel
theorem dX3_isOn_40 : decode cX3_isOn 40 = .ok (.if_icmp .eq 14, 3) := by decide +kernel
theorem dX3_isOn_43 : decode cX3_isOn 43 = .ok (.aload_n 0, 1) := by decide +kernel
theorem dX3_isOn_44 : decode cX3_isOn 44 = .ok (.getfield 58, 3) := by decide +kernel
theorem dX3_isOn_47 : decode cX3_isOn 47 = .ok (.getfield 62, 3) := by decide +kernel
theorem dX3_isOn_50 : decode cX3_isOn 50 = .ok (.iload_n 1, 1) := by decide +kernel
theorem dX3_isOn_51 : decode cX3_isOn 51 = .ok (.if_icmp .ne 7, 3) := by decide +kernel
theorem dX3_isOn_54 : decode cX3_isOn 54 = .ok (.iconst 1, 1) := by decide +kernel
theorem dX3_isOn_55 : decode cX3_isOn 55 = .ok (.goto 4, 3) := by decide +kernel
theorem dX3_isOn_58 : decode cX3_isOn 58 = .ok (.iconst 0, 1) := by decide +kernel
theorem dX3_isOn_59 : decode cX3_isOn 59 = .ok (.ireturn, 1) := by decide +kernel
theorem dX3_move_0 : decode cX3_move 0 = .ok (.aload_n 0, 1) := by decide +kernel
theorem dX3_move_1 : decode cX3_move 1 = .ok (.getfield 46, 3) := by decide +kernel
theorem dX3_move_4 : decode cX3_move 4 = .ok (.iload_n 1, 1) := by decide +kernel
theorem dX3_move_5 : decode cX3_move 5 = .ok (.if_icmp .ne 8, 3) := by decide +kernel
theorem dX3_move_8 : decode cX3_move 8 = .ok (.aload_n 0, 1) := by decide +kernel
theorem dX3_move_9 : decode cX3_move 9 = .ok (.iload_n 2, 1) := by decide +kernel
theorem dX3_move_10 : decode cX3_move 10 = .ok (.putfield 46, 3) := by decide +kernel
theorem dX3_move_13 : decode cX3_move 13 = .ok (.aload_n 0, 1) := by decide +kernel
theorem dX3_move_14 : decode cX3_move 14 = .ok (.getfield 58, 3) := by decide +kernel
theorem dX3_move_17 : decode cX3_move 17 = .ok (.ifnull 22, 3) := by decide +kernel
theorem dX3_move_20 : decode cX3_move 20 = .ok (.aload_n 0, 1) := by decide +kernel
theorem dX3_move_21 : decode cX3_move 21 = .ok (.getfield 58, 3) := by decide +kernel
theorem dX3_move_24 : decode cX3_move 24 = .ok (.getfield 62, 3) := by decide +kernel
theorem dX3_move_27 : decode cX3_move 27 = .ok (.iload_n 1, 1) := by decide +kernel
theorem dX3_move_28 : decode cX3_move 28 = .ok (.if_icmp .ne 11, 3) := by decide +kernel
theorem dX3_move_31 : decode cX3_move 31 = .ok (.aload_n 0, 1) := by decide +kernel
theorem dX3_move_32 : decode cX3_move 32 = .ok (.getfield 58, 3) := by decide +kernel
theorem dX3_move_35 : decode cX3_move 35 = .ok (.iload_n 2, 1) := by decide +kernel
theorem dX3_move_36 : decode cX3_move 36 = .ok (.putfield 62, 3) := by decide +kernel
theorem dX3_move_39 : decode cX3_move 39 = .ok (.return_, 1) := by decide +kernel
theorem dX3_goAway_0 : decode cX3_goAway 0 = .ok (.aload_n 0, 1) := by decide +kernel
theorem dX3_goAway_1 : decode cX3_goAway 1 = .ok (.iconst 0, 1) := by decide +kernel
theorem dX3_goAway_2 : decode cX3_goAway 2 = .ok (.putfield 32, 3) := by decide +kernel
theorem dX3_goAway_5 : decode cX3_goAway 5 = .ok (.aload_n 0, 1) := by decide +kernel
theorem dX3_goAway_6 : decode cX3_goAway 6 = .ok (.iconst 0, 1) := by decide +kernel
theorem dX3_goAway_7 : decode cX3_goAway 7 = .ok (.putfield 65, 3) := by decide +kernel
theorem dX3_goAway_10 : decode cX3_goAway 10 = .ok (.aload_n 0, 1) := by decide +kernel
theorem dX3_goAway_11 : decode cX3_goAway 11 = .ok (.getfield 12, 3) := by decide +kernel
theorem dX3_goAway_14 : decode cX3_goAway 14 = .ok (.invokevirtual 69, 3) := by decide +kernel
theorem dX3_goAway_17 : decode cX3_goAway 17 = .ok (.aload_n 0, 1) := by decide +kernel
theorem dX3_goAway_18 : decode cX3_goAway 18 = .ok (.getfield 21, 3) := by decide +kernel
theorem dX3_goAway_21 : decode cX3_goAway 21 = .ok (.invokevirtual 72, 3) := by decide +kernel
theorem dX3_goAway_24 : decode cX3_goAway 24 = .ok (.aload_n 0, 1) := by decide +kernel
theorem dX3_goAway_25 : decode cX3_goAway 25 = .ok (.getfield 28, 3) := by decide +kernel
theorem dX3_goAway_28 : decode cX3_goAway 28 = .ok (.invokevirtual 73, 3) := by decide +kernel
theorem dX3_goAway_31 : decode cX3_goAway 31 = .ok (.return_, 1) := by decide +kernel
theorem dX3_clearLetters_0 : decode cX3_clearLetters 0 = .ok (.aload_n 0, 1) := by decide +kernel
theorem dX3_clearLetters_1 : decode cX3_clearLetters 1 = .ok (.getfield 39, 3) := by decide +kernel
theorem dX3_clearLetters_4 : decode cX3_clearLetters 4 = .ok (.invokevirtual 74, 3) := by decide +kernel
theorem dX3_clearLetters_7 : decode cX3_clearLetters 7 = .ok (.aload_n 0, 1) := by decide +kernel
theorem dX3_clearLetters_8 : decode cX3_clearLetters 8 = .ok (.getfield 58, 3) := by decide +kernel
theorem dX3_clearLetters_11 : decode cX3_clearLetters 11 = .ok (.ifnull 13, 3) := by decide +kernel
theorem dX3_clearLetters_14 : decode cX3_clearLetters 14 = .ok (.aload_n 0, 1) := by decide +kernel
theorem dX3_clearLetters_15 : decode cX3_clearLetters 15 = .ok (.getfield 58, 3) := by decide +kernel
theorem dX3_clearLetters_18 : decode cX3_clearLetters 18 = .ok (.getfield 75, 3) := by decide +kernel
theorem dX3_clearLetters_21 : decode cX3_clearLetters 21 = .ok (.invokevirtual 74, 3) := by decide +kernel
theorem dX3_clearLetters_24 : decode cX3_clearLetters 24 = .ok (.return_, 1) := by decide +kernel
theorem dX4_init_0 : decode cX4_init 0 = .ok (.aload_n 0, 1) := by decide +kernel
theorem dX4_init_1 : decode cX4_init 1 = .ok (.invokespecial 3, 3) := by decide +kernel
theorem dX4_init_4 : decode cX4_init 4 = .ok (.aload_n 0, 1) := by decide +kernel
theorem dX4_init_5 : decode cX4_init 5 = .ok (.bipush 16, 2) := by decide +kernel
theorem dX4_init_7 : decode cX4_init 7 = .ok (.newarray .int, 2) := by decide +kernel
theorem dX4_init_9 : decode cX4_init 9 = .ok (.putfield 9, 3) := by decide +kernel
theorem dX4_init_12 : decode cX4_init 12 = .ok (.aload_n 0, 1) := by decide +kernel
theorem dX4_init_13 : decode cX4_init 13 = .ok (.bipush 16, 2) := by decide +kernel
theorem dX4_init_15 : decode cX4_init 15 = .ok (.newarray .int, 2) := by decide +kernel
theorem dX4_init_17 : decode cX4_init 17 = .ok (.putfield 15, 3) := by decide +kernel
theorem dX4_init_20 : decode cX4_init 20 = .ok (.aload_n 0, 1) := by decide +kernel
theorem dX4_init_21 : decode cX4_init 21 = .ok (.bipush 16, 2) := by decide +kernel
theorem dX4_init_23 : decode cX4_init 23 = .ok (.newarray .int, 2) := by decide +kernel
theorem dX4_init_25 : decode cX4_init 25 = .ok (.putfield 18, 3) := by decide +kernel
theorem dX4_init_28 : decode cX4_init 28 = .ok (.aload_n 0, 1) := by decide +kernel
theorem dX4_init_29 : decode cX4_init 29 = .ok (.bipush 32, 2) := by decide +kernel
theorem dX4_init_31 : decode cX4_init 31 = .ok (.newarray .int, 2) := by decide +kernel
theorem dX4_init_33 : decode cX4_init 33 = .ok (.putfield 21, 3) := by decide +kernel
theorem dX4_init_36 : decode cX4_init 36 = .ok (.aload_n 0, 1) := by decide +kernel
theorem dX4_init_37 : decode cX4_init 37 = .ok (.bipush 32, 2) := by decide +kernel
theorem dX4_init_39 : decode cX4_init 39 = .ok (.newarray .int, 2) := by decide +kernel
theorem dX4_init_41 : decode cX4_init 41 = .ok (.putfield 24, 3) := by decide +kernel
theorem dX4_init_44 : decode cX4_init 44 = .ok (.aload_n 0, 1) := by decide +kernel
theorem dX4_init_45 : decode cX4_init 45 = .ok (.bipush 32, 2) := by decide +kernel
theorem dX4_init_47 : decode cX4_init 47 = .ok (.newarray .int, 2) := by decide +kernel
theorem dX4_init_49 : decode cX4_init 49 = .ok (.putfield 27, 3) := by decide +kernel
theorem dX4_init_52 : decode cX4_init 52 = .ok (.aload_n 0, 1) := by decide +kernel
theorem dX4_init_53 : decode cX4_init 53 = .ok (.bipush 32, 2) := by decide +kernel
theorem dX4_init_55 : decode cX4_init 55 = .ok (.newarray .int, 2) := by decide +kernel
theorem dX4_init_57 : decode cX4_init 57 = .ok (.putfield 30, 3) := by decide +kernel
theorem dX4_init_60 : decode cX4_init 60 = .ok (.aload_n 0, 1) := by decide +kernel
theorem dX4_init_61 : decode cX4_init 61 = .ok (.bipush 32, 2) := by decide +kernel
theorem dX4_init_63 : decode cX4_init 63 = .ok (.newarray .int, 2) := by decide +kernel
theorem dX4_init_65 : decode cX4_init 65 = .ok (.putfield 33, 3) := by decide +kernel
theorem dX4_init_68 : decode cX4_init 68 = .ok (.aload_n 0, 1) := by decide +kernel
theorem dX4_init_69 : decode cX4_init 69 = .ok (.bipush 32, 2) := by decide +kernel
theorem dX4_init_71 : decode cX4_init 71 = .ok (.newarray .int, 2) := by decide +kernel
theorem dX4_init_73 : decode cX4_init 73 = .ok (.putfield 36, 3) := by decide +kernel
theorem dX4_init_76 : decode cX4_init 76 = .ok (.aload_n 0, 1) := by decide +kernel
theorem dX4_init_77 : decode cX4_init 77 = .ok (.bipush 32, 2) := by decide +kernel
theorem dX4_init_79 : decode cX4_init 79 = .ok (.newarray .int, 2) := by decide +kernel
theorem dX4_init_81 : decode cX4_init 81 = .ok (.putfield 39, 3) := by decide +kernel
theorem dX4_init_84 : decode cX4_init 84 = .ok (.return_, 1) := by decide +kernel
theorem dX4_isEmpty_0 : decode cX4_isEmpty 0 = .ok (.aload_n 0, 1) := by decide +kernel
theorem dX4_isEmpty_1 : decode cX4_isEmpty 1 = .ok (.getfield 42, 3) := by decide +kernel
theorem dX4_isEmpty_4 : decode cX4_isEmpty 4 = .ok (.aload_n 0, 1) := by decide +kernel
theorem dX4_isEmpty_5 : decode cX4_isEmpty 5 = .ok (.getfield 46, 3) := by decide +kernel
theorem dX4_isEmpty_8 : decode cX4_isEmpty 8 = .ok (.ior, 1) := by decide +kernel
theorem dX4_isEmpty_9 : decode cX4_isEmpty 9 = .ok (.aload_n 0, 1) := by decide +kernel
theorem dX4_isEmpty_10 : decode cX4_isEmpty 10 = .ok (.getfield 49, 3) := by decide +kernel
theorem dX4_isEmpty_13 : decode cX4_isEmpty 13 = .ok (.ior, 1) := by decide +kernel
theorem dX4_isEmpty_14 : decode cX4_isEmpty 14 = .ok (.aload_n 0, 1) := by decide +kernel
theorem dX4_isEmpty_15 : decode cX4_isEmpty 15 = .ok (.getfield 52, 3) := by decide +kernel
theorem dX4_isEmpty_18 : decode cX4_isEmpty 18 = .ok (.ior, 1) := by decide +kernel
theorem dX4_isEmpty_19 : decode cX4_isEmpty 19 = .ok (.ifCond .ne 7, 3) := by decide +kernel
theorem dX4_isEmpty_22 : decode cX4_isEmpty 22 = .ok (.iconst 1, 1) := by decide +kernel
theorem dX4_isEmpty_23 : decode cX4_isEmpty 23 = .ok (.goto 4, 3) := by decide +kernel
theorem dX4_isEmpty_26 : decode cX4_isEmpty 26 = .ok (.iconst 0, 1) := by decide +kernel
theorem dX4_isEmpty_27 : decode cX4_isEmpty 27 = .ok (.ireturn, 1) := by decide +kernel
theorem dX4_size_0 : decode cX4_size 0 = .ok (.aload_n 0, 1) := by decide +kernel
theorem dX4_size_1 : decode cX4_size 1 = .ok (.getfield 42, 3) := by decide +kernel
theorem dX4_size_4 : decode cX4_size 4 = .ok (.invokestatic 55, 3) := by decide +kernel
theorem dX4_size_7 : decode cX4_size 7 = .ok (.aload_n 0, 1) := by decide +kernel
theorem dX4_size_8 : decode cX4_size 8 = .ok (.getfield 46, 3) := by decide +kernel
theorem dX4_size_11 : decode cX4_size 11 = .ok (.invokestatic 55, 3) := by decide +kernel
theorem dX4_size_14 : decode cX4_size 14 = .ok (.iadd, 1) := by decide +kernel
theorem dX4_size_15 : decode cX4_size 15 = .ok (.aload_n 0, 1) := by decide +kernel
theorem dX4_size_16 : decode cX4_size 16 = .ok (.getfield 49, 3) := by decide +kernel
theorem dX4_size_19 : decode cX4_size 19 = .ok (.invokestatic 55, 3) := by decide +kernel
theorem dX4_size_22 : decode cX4_size 22 = .ok (.iadd, 1) := by decide +kernel
theorem dX4_size_23 : decode cX4_size 23 = .ok (.aload_n 0, 1) := by decide +kernel
theorem dX4_size_24 : decode cX4_size 24 = .ok (.getfield 52, 3) := by decide +kernel
theorem dX4_size_27 : decode cX4_size 27 = .ok (.invokestatic 55, 3) := by decide +kernel
theorem dX4_size_30 : decode cX4_size 30 = .ok (.iadd, 1) := by decide +kernel
theorem dX4_size_31 : decode cX4_size 31 = .ok (.ireturn, 1) := by decide +kernel
theorem dX4_clear_0 : decode cX4_clear 0 = .ok (.aload_n 0, 1) := by decide +kernel
theorem dX4_clear_1 : decode cX4_clear 1 = .ok (.iconst 0, 1) := by decide +kernel
theorem dX4_clear_2 : decode cX4_clear 2 = .ok (.putfield 42, 3) := by decide +kernel
theorem dX4_clear_5 : decode cX4_clear 5 = .ok (.aload_n 0, 1) := by decide +kernel
theorem dX4_clear_6 : decode cX4_clear 6 = .ok (.iconst 0, 1) := by decide +kernel
theorem dX4_clear_7 : decode cX4_clear 7 = .ok (.putfield 46, 3) := by decide +kernel
theorem dX4_clear_10 : decode cX4_clear 10 = .ok (.aload_n 0, 1) := by decide +kernel
theorem dX4_clear_11 : decode cX4_clear 11 = .ok (.iconst 0, 1) := by decide +kernel
theorem dX4_clear_12 : decode cX4_clear 12 = .ok (.putfield 49, 3) := by decide +kernel
theorem dX4_clear_15 : decode cX4_clear 15 = .ok (.aload_n 0, 1) := by decide +kernel
theorem dX4_clear_16 : decode cX4_clear 16 = .ok (.iconst 0, 1) := by decide +kernel
theorem dX4_clear_17 : decode cX4_clear 17 = .ok (.putfield 52, 3) := by decide +kernel
theorem dX4_clear_20 : decode cX4_clear 20 = .ok (.return_, 1) := by decide +kernel
theorem dX4_hasAsk_0 : decode cX4_hasAsk 0 = .ok (.aload_n 0, 1) := by decide +kernel
theorem dX4_hasAsk_1 : decode cX4_hasAsk 1 = .ok (.getfield 42, 3) := by decide +kernel
theorem dX4_hasAsk_4 : decode cX4_hasAsk 4 = .ok (.iload_n 1, 1) := by decide +kernel
theorem dX4_hasAsk_5 : decode cX4_hasAsk 5 = .ok (.invokestatic 61, 3) := by decide +kernel
theorem dX4_hasAsk_8 : decode cX4_hasAsk 8 = .ok (.ireturn, 1) := by decide +kernel
theorem dX4_hasClaim_0 : decode cX4_hasClaim 0 = .ok (.aload_n 0, 1) := by decide +kernel
theorem dX4_hasClaim_1 : decode cX4_hasClaim 1 = .ok (.getfield 46, 3) := by decide +kernel
theorem dX4_hasClaim_4 : decode cX4_hasClaim 4 = .ok (.iload_n 1, 1) := by decide +kernel
theorem dX4_hasClaim_5 : decode cX4_hasClaim 5 = .ok (.invokestatic 61, 3) := by decide +kernel
theorem dX4_hasClaim_8 : decode cX4_hasClaim 8 = .ok (.ireturn, 1) := by decide +kernel
theorem dX4_hasBye_0 : decode cX4_hasBye 0 = .ok (.aload_n 0, 1) := by decide +kernel
theorem dX4_hasBye_1 : decode cX4_hasBye 1 = .ok (.getfield 49, 3) := by decide +kernel
theorem dX4_hasBye_4 : decode cX4_hasBye 4 = .ok (.iload_n 1, 1) := by decide +kernel
theorem dX4_hasBye_5 : decode cX4_hasBye 5 = .ok (.invokestatic 61, 3) := by decide +kernel
theorem dX4_hasBye_8 : decode cX4_hasBye 8 = .ok (.ireturn, 1) := by decide +kernel
theorem dX4_hasTelling_0 : decode cX4_hasTelling 0 = .ok (.aload_n 0, 1) := by decide +kernel
theorem dX4_hasTelling_1 : decode cX4_hasTelling 1 = .ok (.getfield 52, 3) := by decide +kernel
theorem dX4_hasTelling_4 : decode cX4_hasTelling 4 = .ok (.iload_n 1, 1) := by decide +kernel
theorem dX4_hasTelling_5 : decode cX4_hasTelling 5 = .ok (.invokestatic 61, 3) := by decide +kernel
theorem dX4_hasTelling_8 : decode cX4_hasTelling 8 = .ok (.ireturn, 1) := by decide +kernel
theorem dX4_addAsk_0 : decode cX4_addAsk 0 = .ok (.aload_n 0, 1) := by decide +kernel
theorem dX4_addAsk_1 : decode cX4_addAsk 1 = .ok (.dup, 1) := by decide +kernel
theorem dX4_addAsk_2 : decode cX4_addAsk 2 = .ok (.getfield 42, 3) := by decide +kernel
theorem dX4_addAsk_5 : decode cX4_addAsk 5 = .ok (.iconst 1, 1) := by decide +kernel
theorem dX4_addAsk_6 : decode cX4_addAsk 6 = .ok (.iload_n 1, 1) := by decide +kernel
theorem dX4_addAsk_7 : decode cX4_addAsk 7 = .ok (.ishl, 1) := by decide +kernel
theorem dX4_addAsk_8 : decode cX4_addAsk 8 = .ok (.ior, 1) := by decide +kernel
theorem dX4_addAsk_9 : decode cX4_addAsk 9 = .ok (.putfield 42, 3) := by decide +kernel
theorem dX4_addAsk_12 : decode cX4_addAsk 12 = .ok (.aload_n 0, 1) := by decide +kernel
theorem dX4_addAsk_13 : decode cX4_addAsk 13 = .ok (.getfield 9, 3) := by decide +kernel
theorem dX4_addAsk_16 : decode cX4_addAsk 16 = .ok (.iload_n 1, 1) := by decide +kernel
theorem dX4_addAsk_17 : decode cX4_addAsk 17 = .ok (.iload_n 2, 1) := by decide +kernel
theorem dX4_addAsk_18 : decode cX4_addAsk 18 = .ok (.iastore, 1) := by decide +kernel
theorem dX4_addAsk_19 : decode cX4_addAsk 19 = .ok (.aload_n 0, 1) := by decide +kernel
theorem dX4_addAsk_20 : decode cX4_addAsk 20 = .ok (.getfield 15, 3) := by decide +kernel
theorem dX4_addAsk_23 : decode cX4_addAsk 23 = .ok (.iload_n 1, 1) := by decide +kernel
theorem dX4_addAsk_24 : decode cX4_addAsk 24 = .ok (.iload_n 3, 1) := by decide +kernel
theorem dX4_addAsk_25 : decode cX4_addAsk 25 = .ok (.iastore, 1) := by decide +kernel
theorem dX4_addAsk_26 : decode cX4_addAsk 26 = .ok (.aload_n 0, 1) := by decide +kernel
theorem dX4_addAsk_27 : decode cX4_addAsk 27 = .ok (.getfield 18, 3) := by decide +kernel
theorem dX4_addAsk_30 : decode cX4_addAsk 30 = .ok (.iload_n 1, 1) := by decide +kernel
theorem dX4_addAsk_31 : decode cX4_addAsk 31 = .ok (.iload 4, 2) := by decide +kernel
theorem dX4_addAsk_33 : decode cX4_addAsk 33 = .ok (.iastore, 1) := by decide +kernel
theorem dX4_addAsk_34 : decode cX4_addAsk 34 = .ok (.return_, 1) := by decide +kernel
theorem dX4_addClaim_0 : decode cX4_addClaim 0 = .ok (.aload_n 0, 1) := by decide +kernel
theorem dX4_addClaim_1 : decode cX4_addClaim 1 = .ok (.dup, 1) := by decide +kernel
theorem dX4_addClaim_2 : decode cX4_addClaim 2 = .ok (.getfield 46, 3) := by decide +kernel
theorem dX4_addClaim_5 : decode cX4_addClaim 5 = .ok (.iconst 1, 1) := by decide +kernel
theorem dX4_addClaim_6 : decode cX4_addClaim 6 = .ok (.iload_n 1, 1) := by decide +kernel
theorem dX4_addClaim_7 : decode cX4_addClaim 7 = .ok (.ishl, 1) := by decide +kernel
theorem dX4_addClaim_8 : decode cX4_addClaim 8 = .ok (.ior, 1) := by decide +kernel
theorem dX4_addClaim_9 : decode cX4_addClaim 9 = .ok (.putfield 46, 3) := by decide +kernel
theorem dX4_addClaim_12 : decode cX4_addClaim 12 = .ok (.aload_n 0, 1) := by decide +kernel
theorem dX4_addClaim_13 : decode cX4_addClaim 13 = .ok (.getfield 21, 3) := by decide +kernel
theorem dX4_addClaim_16 : decode cX4_addClaim 16 = .ok (.iload_n 1, 1) := by decide +kernel
theorem dX4_addClaim_17 : decode cX4_addClaim 17 = .ok (.iload_n 2, 1) := by decide +kernel
theorem dX4_addClaim_18 : decode cX4_addClaim 18 = .ok (.iastore, 1) := by decide +kernel
theorem dX4_addClaim_19 : decode cX4_addClaim 19 = .ok (.aload_n 0, 1) := by decide +kernel
theorem dX4_addClaim_20 : decode cX4_addClaim 20 = .ok (.getfield 24, 3) := by decide +kernel
theorem dX4_addClaim_23 : decode cX4_addClaim 23 = .ok (.iload_n 1, 1) := by decide +kernel
theorem dX4_addClaim_24 : decode cX4_addClaim 24 = .ok (.iload_n 3, 1) := by decide +kernel
theorem dX4_addClaim_25 : decode cX4_addClaim 25 = .ok (.iastore, 1) := by decide +kernel
theorem dX4_addClaim_26 : decode cX4_addClaim 26 = .ok (.return_, 1) := by decide +kernel
theorem dX4_addBye_0 : decode cX4_addBye 0 = .ok (.aload_n 0, 1) := by decide +kernel
theorem dX4_addBye_1 : decode cX4_addBye 1 = .ok (.dup, 1) := by decide +kernel
theorem dX4_addBye_2 : decode cX4_addBye 2 = .ok (.getfield 49, 3) := by decide +kernel
theorem dX4_addBye_5 : decode cX4_addBye 5 = .ok (.iconst 1, 1) := by decide +kernel
theorem dX4_addBye_6 : decode cX4_addBye 6 = .ok (.iload_n 1, 1) := by decide +kernel
theorem dX4_addBye_7 : decode cX4_addBye 7 = .ok (.ishl, 1) := by decide +kernel
theorem dX4_addBye_8 : decode cX4_addBye 8 = .ok (.ior, 1) := by decide +kernel
theorem dX4_addBye_9 : decode cX4_addBye 9 = .ok (.putfield 49, 3) := by decide +kernel
theorem dX4_addBye_12 : decode cX4_addBye 12 = .ok (.aload_n 0, 1) := by decide +kernel
theorem dX4_addBye_13 : decode cX4_addBye 13 = .ok (.getfield 27, 3) := by decide +kernel
theorem dX4_addBye_16 : decode cX4_addBye 16 = .ok (.iload_n 1, 1) := by decide +kernel
theorem dX4_addBye_17 : decode cX4_addBye 17 = .ok (.iload_n 2, 1) := by decide +kernel
theorem dX4_addBye_18 : decode cX4_addBye 18 = .ok (.iastore, 1) := by decide +kernel
theorem dX4_addBye_19 : decode cX4_addBye 19 = .ok (.return_, 1) := by decide +kernel
theorem dX4_addTelling_0 : decode cX4_addTelling 0 = .ok (.aload_n 0, 1) := by decide +kernel
theorem dX4_addTelling_1 : decode cX4_addTelling 1 = .ok (.dup, 1) := by decide +kernel
theorem dX4_addTelling_2 : decode cX4_addTelling 2 = .ok (.getfield 52, 3) := by decide +kernel
theorem dX4_addTelling_5 : decode cX4_addTelling 5 = .ok (.iconst 1, 1) := by decide +kernel
theorem dX4_addTelling_6 : decode cX4_addTelling 6 = .ok (.iload_n 1, 1) := by decide +kernel
theorem dX4_addTelling_7 : decode cX4_addTelling 7 = .ok (.ishl, 1) := by decide +kernel
theorem dX4_addTelling_8 : decode cX4_addTelling 8 = .ok (.ior, 1) := by decide +kernel
theorem dX4_addTelling_9 : decode cX4_addTelling 9 = .ok (.putfield 52, 3) := by decide +kernel
theorem dX4_addTelling_12 : decode cX4_addTelling 12 = .ok (.aload_n 0, 1) := by decide +kernel
theorem dX4_addTelling_13 : decode cX4_addTelling 13 = .ok (.getfield 30, 3) := by decide +kernel
theorem dX4_addTelling_16 : decode cX4_addTelling 16 = .ok (.iload_n 1, 1) := by decide +kernel
theorem dX4_addTelling_17 : decode cX4_addTelling 17 = .ok (.iload_n 2, 1) := by decide +kernel
theorem dX4_addTelling_18 : decode cX4_addTelling 18 = .ok (.iastore, 1) := by decide +kernel
theorem dX4_addTelling_19 : decode cX4_addTelling 19 = .ok (.aload_n 0, 1) := by decide +kernel
theorem dX4_addTelling_20 : decode cX4_addTelling 20 = .ok (.getfield 33, 3) := by decide +kernel
theorem dX4_addTelling_23 : decode cX4_addTelling 23 = .ok (.iload_n 1, 1) := by decide +kernel
theorem dX4_addTelling_24 : decode cX4_addTelling 24 = .ok (.iload_n 3, 1) := by decide +kernel
theorem dX4_addTelling_25 : decode cX4_addTelling 25 = .ok (.iastore, 1) := by decide +kernel
theorem dX4_addTelling_26 : decode cX4_addTelling 26 = .ok (.aload_n 0, 1) := by decide +kernel
theorem dX4_addTelling_27 : decode cX4_addTelling 27 = .ok (.getfield 36, 3) := by decide +kernel
theorem dX4_addTelling_30 : decode cX4_addTelling 30 = .ok (.iload_n 1, 1) := by decide +kernel
theorem dX4_addTelling_31 : decode cX4_addTelling 31 = .ok (.iload 4, 2) := by decide +kernel
theorem dX4_addTelling_33 : decode cX4_addTelling 33 = .ok (.iastore, 1) := by decide +kernel
theorem dX4_addTelling_34 : decode cX4_addTelling 34 = .ok (.aload_n 0, 1) := by decide +kernel
theorem dX4_addTelling_35 : decode cX4_addTelling 35 = .ok (.getfield 39, 3) := by decide +kernel
theorem dX4_addTelling_38 : decode cX4_addTelling 38 = .ok (.iload_n 1, 1) := by decide +kernel
theorem dX4_addTelling_39 : decode cX4_addTelling 39 = .ok (.iload 5, 2) := by decide +kernel
theorem dX4_addTelling_41 : decode cX4_addTelling 41 = .ok (.iastore, 1) := by decide +kernel
theorem dX4_addTelling_42 : decode cX4_addTelling 42 = .ok (.return_, 1) := by decide +kernel
theorem dX4_takeAsk_0 : decode cX4_takeAsk 0 = .ok (.aload_n 1, 1) := by decide +kernel
theorem dX4_takeAsk_1 : decode cX4_takeAsk 1 = .ok (.getfield 18, 3) := by decide +kernel
theorem dX4_takeAsk_4 : decode cX4_takeAsk 4 = .ok (.iload_n 2, 1) := by decide +kernel
theorem dX4_takeAsk_5 : decode cX4_takeAsk 5 = .ok (.iaload, 1) := by decide +kernel
theorem dX4_takeAsk_6 : decode cX4_takeAsk 6 = .ok (.iconst 1, 1) := by decide +kernel
theorem dX4_takeAsk_7 : decode cX4_takeAsk 7 = .ok (.aload_n 1, 1) := by decide +kernel
theorem dX4_takeAsk_8 : decode cX4_takeAsk 8 = .ok (.getfield 65, 3) := by decide +kernel
theorem dX4_takeAsk_11 : decode cX4_takeAsk 11 = .ok (.ishl, 1) := by decide +kernel
theorem dX4_takeAsk_12 : decode cX4_takeAsk 12 = .ok (.ior, 1) := by decide +kernel
theorem dX4_takeAsk_13 : decode cX4_takeAsk 13 = .ok (.istore 4, 2) := by decide +kernel
theorem dX4_takeAsk_15 : decode cX4_takeAsk 15 = .ok (.aload_n 1, 1) := by decide +kernel
theorem dX4_takeAsk_16 : decode cX4_takeAsk 16 = .ok (.iload_n 2, 1) := by decide +kernel
theorem dX4_takeAsk_17 : decode cX4_takeAsk 17 = .ok (.invokevirtual 68, 3) := by decide +kernel
theorem dX4_takeAsk_20 : decode cX4_takeAsk 20 = .ok (.ifCond .eq 39, 3) := by decide +kernel
theorem dX4_takeAsk_23 : decode cX4_takeAsk 23 = .ok (.iload 4, 2) := by decide +kernel
theorem dX4_takeAsk_25 : decode cX4_takeAsk 25 = .ok (.iload_n 3, 1) := by decide +kernel
theorem dX4_takeAsk_26 : decode cX4_takeAsk 26 = .ok (.invokestatic 61, 3) := by decide +kernel
theorem dX4_takeAsk_29 : decode cX4_takeAsk 29 = .ok (.ifCond .ne 30, 3) := by decide +kernel
theorem dX4_takeAsk_32 : decode cX4_takeAsk 32 = .ok (.aload_n 0, 1) := by decide +kernel
theorem dX4_takeAsk_33 : decode cX4_takeAsk 33 = .ok (.iload_n 2, 1) := by decide +kernel
theorem dX4_takeAsk_34 : decode cX4_takeAsk 34 = .ok (.invokevirtual 68, 3) := by decide +kernel
theorem dX4_takeAsk_37 : decode cX4_takeAsk 37 = .ok (.ifCond .ne 22, 3) := by decide +kernel
theorem dX4_takeAsk_40 : decode cX4_takeAsk 40 = .ok (.aload_n 0, 1) := by decide +kernel
theorem dX4_takeAsk_41 : decode cX4_takeAsk 41 = .ok (.iload_n 2, 1) := by decide +kernel
theorem dX4_takeAsk_42 : decode cX4_takeAsk 42 = .ok (.aload_n 1, 1) := by decide +kernel
theorem dX4_takeAsk_43 : decode cX4_takeAsk 43 = .ok (.getfield 9, 3) := by decide +kernel
theorem dX4_takeAsk_46 : decode cX4_takeAsk 46 = .ok (.iload_n 2, 1) := by decide +kernel
theorem dX4_takeAsk_47 : decode cX4_takeAsk 47 = .ok (.iaload, 1) := by decide +kernel
theorem dX4_takeAsk_48 : decode cX4_takeAsk 48 = .ok (.aload_n 1, 1) := by decide +kernel
theorem dX4_takeAsk_49 : decode cX4_takeAsk 49 = .ok (.getfield 15, 3) := by decide +kernel
theorem dX4_takeAsk_52 : decode cX4_takeAsk 52 = .ok (.iload_n 2, 1) := by decide +kernel
theorem dX4_takeAsk_53 : decode cX4_takeAsk 53 = .ok (.iaload, 1) := by decide +kernel
theorem dX4_takeAsk_54 : decode cX4_takeAsk 54 = .ok (.iload 4, 2) := by decide +kernel
theorem dX4_takeAsk_56 : decode cX4_takeAsk 56 = .ok (.invokevirtual 72, 3) := by decide +kernel
theorem dX4_takeAsk_59 : decode cX4_takeAsk 59 = .ok (.return_, 1) := by decide +kernel
theorem dX4_takeClaim_0 : decode cX4_takeClaim 0 = .ok (.aload_n 1, 1) := by decide +kernel
theorem dX4_takeClaim_1 : decode cX4_takeClaim 1 = .ok (.getfield 24, 3) := by decide +kernel
theorem dX4_takeClaim_4 : decode cX4_takeClaim 4 = .ok (.iload_n 2, 1) := by decide +kernel
theorem dX4_takeClaim_5 : decode cX4_takeClaim 5 = .ok (.iaload, 1) := by decide +kernel
theorem dX4_takeClaim_6 : decode cX4_takeClaim 6 = .ok (.iconst 1, 1) := by decide +kernel
theorem dX4_takeClaim_7 : decode cX4_takeClaim 7 = .ok (.aload_n 1, 1) := by decide +kernel
theorem dX4_takeClaim_8 : decode cX4_takeClaim 8 = .ok (.getfield 65, 3) := by decide +kernel
theorem dX4_takeClaim_11 : decode cX4_takeClaim 11 = .ok (.ishl, 1) := by decide +kernel
theorem dX4_takeClaim_12 : decode cX4_takeClaim 12 = .ok (.ior, 1) := by decide +kernel
theorem dX4_takeClaim_13 : decode cX4_takeClaim 13 = .ok (.istore 4, 2) := by decide +kernel
theorem dX4_takeClaim_15 : decode cX4_takeClaim 15 = .ok (.aload_n 1, 1) := by decide +kernel
theorem dX4_takeClaim_16 : decode cX4_takeClaim 16 = .ok (.iload_n 2, 1) := by decide +kernel
theorem dX4_takeClaim_17 : decode cX4_takeClaim 17 = .ok (.invokevirtual 76, 3) := by decide +kernel
theorem dX4_takeClaim_20 : decode cX4_takeClaim 20 = .ok (.ifCond .eq 25, 3) := by decide +kernel
theorem dX4_takeClaim_23 : decode cX4_takeClaim 23 = .ok (.iload 4, 2) := by decide +kernel
theorem dX4_takeClaim_25 : decode cX4_takeClaim 25 = .ok (.iload_n 3, 1) := by decide +kernel
theorem dX4_takeClaim_26 : decode cX4_takeClaim 26 = .ok (.invokestatic 61, 3) := by decide +kernel
theorem dX4_takeClaim_29 : decode cX4_takeClaim 29 = .ok (.ifCond .ne 16, 3) := by decide +kernel
theorem dX4_takeClaim_32 : decode cX4_takeClaim 32 = .ok (.aload_n 0, 1) := by decide +kernel
theorem dX4_takeClaim_33 : decode cX4_takeClaim 33 = .ok (.iload_n 2, 1) := by decide +kernel
theorem dX4_takeClaim_34 : decode cX4_takeClaim 34 = .ok (.aload_n 1, 1) := by decide +kernel
theorem dX4_takeClaim_35 : decode cX4_takeClaim 35 = .ok (.getfield 21, 3) := by decide +kernel
theorem dX4_takeClaim_38 : decode cX4_takeClaim 38 = .ok (.iload_n 2, 1) := by decide +kernel
theorem dX4_takeClaim_39 : decode cX4_takeClaim 39 = .ok (.iaload, 1) := by decide +kernel
theorem dX4_takeClaim_40 : decode cX4_takeClaim 40 = .ok (.iload 4, 2) := by decide +kernel
theorem dX4_takeClaim_42 : decode cX4_takeClaim 42 = .ok (.invokevirtual 79, 3) := by decide +kernel
theorem dX4_takeClaim_45 : decode cX4_takeClaim 45 = .ok (.return_, 1) := by decide +kernel
theorem dX4_takeBye_0 : decode cX4_takeBye 0 = .ok (.aload_n 1, 1) := by decide +kernel
theorem dX4_takeBye_1 : decode cX4_takeBye 1 = .ok (.getfield 27, 3) := by decide +kernel
theorem dX4_takeBye_4 : decode cX4_takeBye 4 = .ok (.iload_n 2, 1) := by decide +kernel
theorem dX4_takeBye_5 : decode cX4_takeBye 5 = .ok (.iaload, 1) := by decide +kernel
theorem dX4_takeBye_6 : decode cX4_takeBye 6 = .ok (.iconst 1, 1) := by decide +kernel
theorem dX4_takeBye_7 : decode cX4_takeBye 7 = .ok (.aload_n 1, 1) := by decide +kernel
theorem dX4_takeBye_8 : decode cX4_takeBye 8 = .ok (.getfield 65, 3) := by decide +kernel
theorem dX4_takeBye_11 : decode cX4_takeBye 11 = .ok (.ishl, 1) := by decide +kernel
theorem dX4_takeBye_12 : decode cX4_takeBye 12 = .ok (.ior, 1) := by decide +kernel
theorem dX4_takeBye_13 : decode cX4_takeBye 13 = .ok (.istore 4, 2) := by decide +kernel
theorem dX4_takeBye_15 : decode cX4_takeBye 15 = .ok (.aload_n 1, 1) := by decide +kernel
theorem dX4_takeBye_16 : decode cX4_takeBye 16 = .ok (.iload_n 2, 1) := by decide +kernel
theorem dX4_takeBye_17 : decode cX4_takeBye 17 = .ok (.invokevirtual 83, 3) := by decide +kernel
theorem dX4_takeBye_20 : decode cX4_takeBye 20 = .ok (.ifCond .eq 19, 3) := by decide +kernel
theorem dX4_takeBye_23 : decode cX4_takeBye 23 = .ok (.iload 4, 2) := by decide +kernel
theorem dX4_takeBye_25 : decode cX4_takeBye 25 = .ok (.iload_n 3, 1) := by decide +kernel
theorem dX4_takeBye_26 : decode cX4_takeBye 26 = .ok (.invokestatic 61, 3) := by decide +kernel
theorem dX4_takeBye_29 : decode cX4_takeBye 29 = .ok (.ifCond .ne 10, 3) := by decide +kernel
theorem dX4_takeBye_32 : decode cX4_takeBye 32 = .ok (.aload_n 0, 1) := by decide +kernel
theorem dX4_takeBye_33 : decode cX4_takeBye 33 = .ok (.iload_n 2, 1) := by decide +kernel
theorem dX4_takeBye_34 : decode cX4_takeBye 34 = .ok (.iload 4, 2) := by decide +kernel
theorem dX4_takeBye_36 : decode cX4_takeBye 36 = .ok (.invokevirtual 86, 3) := by decide +kernel
theorem dX4_takeBye_39 : decode cX4_takeBye 39 = .ok (.return_, 1) := by decide +kernel
theorem dX4_takeTelling_0 : decode cX4_takeTelling 0 = .ok (.aload_n 1, 1) := by decide +kernel
theorem dX4_takeTelling_1 : decode cX4_takeTelling 1 = .ok (.getfield 39, 3) := by decide +kernel
theorem dX4_takeTelling_4 : decode cX4_takeTelling 4 = .ok (.iload_n 2, 1) := by decide +kernel
theorem dX4_takeTelling_5 : decode cX4_takeTelling 5 = .ok (.iaload, 1) := by decide +kernel
theorem dX4_takeTelling_6 : decode cX4_takeTelling 6 = .ok (.iconst 1, 1) := by decide +kernel
theorem dX4_takeTelling_7 : decode cX4_takeTelling 7 = .ok (.aload_n 1, 1) := by decide +kernel
theorem dX4_takeTelling_8 : decode cX4_takeTelling 8 = .ok (.getfield 65, 3) := by decide +kernel
theorem dX4_takeTelling_11 : decode cX4_takeTelling 11 = .ok (.ishl, 1) := by decide +kernel
theorem dX4_takeTelling_12 : decode cX4_takeTelling 12 = .ok (.ior, 1) := by decide +kernel
theorem dX4_takeTelling_13 : decode cX4_takeTelling 13 = .ok (.istore 4, 2) := by decide +kernel
theorem dX4_takeTelling_15 : decode cX4_takeTelling 15 = .ok (.aload_n 1, 1) := by decide +kernel
theorem dX4_takeTelling_16 : decode cX4_takeTelling 16 = .ok (.getfield 36, 3) := by decide +kernel
theorem dX4_takeTelling_19 : decode cX4_takeTelling 19 = .ok (.iload_n 2, 1) := by decide +kernel
theorem dX4_takeTelling_20 : decode cX4_takeTelling 20 = .ok (.iaload, 1) := by decide +kernel
theorem dX4_takeTelling_21 : decode cX4_takeTelling 21 = .ok (.iconst 1, 1) := by decide +kernel
theorem dX4_takeTelling_22 : decode cX4_takeTelling 22 = .ok (.isub, 1) := by decide +kernel
theorem dX4_takeTelling_23 : decode cX4_takeTelling 23 = .ok (.istore 5, 2) := by decide +kernel
theorem dX4_takeTelling_25 : decode cX4_takeTelling 25 = .ok (.aload_n 1, 1) := by decide +kernel
theorem dX4_takeTelling_26 : decode cX4_takeTelling 26 = .ok (.iload_n 2, 1) := by decide +kernel
theorem dX4_takeTelling_27 : decode cX4_takeTelling 27 = .ok (.invokevirtual 90, 3) := by decide +kernel
theorem dX4_takeTelling_30 : decode cX4_takeTelling 30 = .ok (.ifCond .eq 38, 3) := by decide +kernel
theorem dX4_takeTelling_33 : decode cX4_takeTelling 33 = .ok (.iload 4, 2) := by decide +kernel
theorem dX4_takeTelling_35 : decode cX4_takeTelling 35 = .ok (.iload_n 3, 1) := by decide +kernel
theorem dX4_takeTelling_36 : decode cX4_takeTelling 36 = .ok (.invokestatic 61, 3) := by decide +kernel
theorem dX4_takeTelling_39 : decode cX4_takeTelling 39 = .ok (.ifCond .ne 29, 3) := by decide +kernel
theorem dX4_takeTelling_42 : decode cX4_takeTelling 42 = .ok (.iload 5, 2) := by decide +kernel
theorem dX4_takeTelling_44 : decode cX4_takeTelling 44 = .ok (.ifCond .le 24, 3) := by decide +kernel
theorem dX4_takeTelling_47 : decode cX4_takeTelling 47 = .ok (.aload_n 0, 1) := by decide +kernel
theorem dX4_takeTelling_48 : decode cX4_takeTelling 48 = .ok (.iload_n 2, 1) := by decide +kernel
theorem dX4_takeTelling_49 : decode cX4_takeTelling 49 = .ok (.aload_n 1, 1) := by decide +kernel
theorem dX4_takeTelling_50 : decode cX4_takeTelling 50 = .ok (.getfield 30, 3) := by decide +kernel
theorem dX4_takeTelling_53 : decode cX4_takeTelling 53 = .ok (.iload_n 2, 1) := by decide +kernel
theorem dX4_takeTelling_54 : decode cX4_takeTelling 54 = .ok (.iaload, 1) := by decide +kernel
theorem dX4_takeTelling_55 : decode cX4_takeTelling 55 = .ok (.aload_n 1, 1) := by decide +kernel
theorem dX4_takeTelling_56 : decode cX4_takeTelling 56 = .ok (.getfield 33, 3) := by decide +kernel
theorem dX4_takeTelling_59 : decode cX4_takeTelling 59 = .ok (.iload_n 2, 1) := by decide +kernel
theorem dX4_takeTelling_60 : decode cX4_takeTelling 60 = .ok (.iaload, 1) := by decide +kernel
theorem dX4_takeTelling_61 : decode cX4_takeTelling 61 = .ok (.iload 5, 2) := by decide +kernel
theorem dX4_takeTelling_63 : decode cX4_takeTelling 63 = .ok (.iload 4, 2) := by decide +kernel
theorem dX4_takeTelling_65 : decode cX4_takeTelling 65 = .ok (.invokevirtual 93, 3) := by decide +kernel
theorem dX4_takeTelling_68 : decode cX4_takeTelling 68 = .ok (.return_, 1) := by decide +kernel
theorem dX5_init_0 : decode cX5_init 0 = .ok (.aload_n 0, 1) := by decide +kernel
theorem dX5_init_1 : decode cX5_init 1 = .ok (.invokespecial 3, 3) := by decide +kernel
theorem dX5_init_4 : decode cX5_init 4 = .ok (.aload_n 0, 1) := by decide +kernel
theorem dX5_init_5 : decode cX5_init 5 = .ok (.iconst 1, 1) := by decide +kernel
theorem dX5_init_6 : decode cX5_init 6 = .ok (.putfield 9, 3) := by decide +kernel
theorem dX5_init_9 : decode cX5_init 9 = .ok (.aload_n 0, 1) := by decide +kernel
theorem dX5_init_10 : decode cX5_init 10 = .ok (.iconst 3, 1) := by decide +kernel
theorem dX5_init_11 : decode cX5_init 11 = .ok (.putfield 15, 3) := by decide +kernel
theorem dX5_init_14 : decode cX5_init 14 = .ok (.aload_n 0, 1) := by decide +kernel
theorem dX5_init_15 : decode cX5_init 15 = .ok (.iload_n 1, 1) := by decide +kernel
theorem dX5_init_16 : decode cX5_init 16 = .ok (.putfield 18, 3) := by decide +kernel
theorem dX5_init_19 : decode cX5_init 19 = .ok (.aload_n 0, 1) := by decide +kernel
theorem dX5_init_20 : decode cX5_init 20 = .ok (.aload_n 2, 1) := by decide +kernel
theorem dX5_init_21 : decode cX5_init 21 = .ok (.putfield 21, 3) := by decide +kernel
theorem dX5_init_24 : decode cX5_init 24 = .ok (.aload_n 0, 1) := by decide +kernel
theorem dX5_init_25 : decode cX5_init 25 = .ok (.iload_n 3, 1) := by decide +kernel
theorem dX5_init_26 : decode cX5_init 26 = .ok (.putfield 25, 3) := by decide +kernel
theorem dX5_init_29 : decode cX5_init 29 = .ok (.aload_n 0, 1) := by decide +kernel
theorem dX5_init_30 : decode cX5_init 30 = .ok (.iload 4, 2) := by decide +kernel
theorem dX5_init_32 : decode cX5_init 32 = .ok (.putfield 28, 3) := by decide +kernel
theorem dX5_init_35 : decode cX5_init 35 = .ok (.aload_n 0, 1) := by decide +kernel
theorem dX5_init_36 : decode cX5_init 36 = .ok (.iload 5, 2) := by decide +kernel
theorem dX5_init_38 : decode cX5_init 38 = .ok (.putfield 31, 3) := by decide +kernel
theorem dX5_init_41 : decode cX5_init 41 = .ok (.aload_n 0, 1) := by decide +kernel
theorem dX5_init_42 : decode cX5_init 42 = .ok (.iload 6, 2) := by decide +kernel
theorem dX5_init_44 : decode cX5_init 44 = .ok (.putfield 34, 3) := by decide +kernel
theorem dX5_init_47 : decode cX5_init 47 = .ok (.aload_n 0, 1) := by decide +kernel
theorem dX5_init_48 : decode cX5_init 48 = .ok (.iload 7, 2) := by decide +kernel
theorem dX5_init_50 : decode cX5_init 50 = .ok (.putfield 37, 3) := by decide +kernel
theorem dX5_init_53 : decode cX5_init 53 = .ok (.return_, 1) := by decide +kernel
theorem dX5_hold_0 : decode cX5_hold 0 = .ok (.aload_n 0, 1) := by decide +kernel
theorem dX5_hold_1 : decode cX5_hold 1 = .ok (.iconst 2, 1) := by decide +kernel
theorem dX5_hold_2 : decode cX5_hold 2 = .ok (.putfield 9, 3) := by decide +kernel
theorem dX5_hold_5 : decode cX5_hold 5 = .ok (.aload_n 0, 1) := by decide +kernel
theorem dX5_hold_6 : decode cX5_hold 6 = .ok (.iload_n 1, 1) := by decide +kernel
theorem dX5_hold_7 : decode cX5_hold 7 = .ok (.putfield 41, 3) := by decide +kernel
theorem dX5_hold_10 : decode cX5_hold 10 = .ok (.return_, 1) := by decide +kernel
theorem dX5_end_0 : decode cX5_end 0 = .ok (.aload_n 0, 1) := by decide +kernel
theorem dX5_end_1 : decode cX5_end 1 = .ok (.aload_n 0, 1) := by decide +kernel
theorem dX5_end_2 : decode cX5_end 2 = .ok (.getfield 44, 3) := by decide +kernel
theorem dX5_end_5 : decode cX5_end 5 = .ok (.ifCond .ne 11, 3) := by decide +kernel
theorem dX5_end_8 : decode cX5_end 8 = .ok (.aload_n 0, 1) := by decide +kernel
theorem dX5_end_9 : decode cX5_end 9 = .ok (.getfield 9, 3) := by decide +kernel
theorem dX5_end_12 : decode cX5_end 12 = .ok (.iconst 2, 1) := by decide +kernel
theorem dX5_end_13 : decode cX5_end 13 = .ok (.if_icmp .ne 7, 3) := by decide +kernel
theorem dX5_end_16 : decode cX5_end 16 = .ok (.iconst 1, 1) := by decide +kernel
theorem dX5_end_17 : decode cX5_end 17 = .ok (.goto 4, 3) := by decide +kernel
theorem dX5_end_20 : decode cX5_end 20 = .ok (.iconst 0, 1) := by decide +kernel
theorem dX5_end_21 : decode cX5_end 21 = .ok (.putfield 44, 3) := by decide +kernel
theorem dX5_end_24 : decode cX5_end 24 = .ok (.aload_n 0, 1) := by decide +kernel
theorem dX5_end_25 : decode cX5_end 25 = .ok (.iconst 0, 1) := by decide +kernel
theorem dX5_end_26 : decode cX5_end 26 = .ok (.putfield 9, 3) := by decide +kernel
theorem dX5_end_29 : decode cX5_end 29 = .ok (.return_, 1) := by decide +kernel
theorem dX5_claimAnew_0 : decode cX5_claimAnew 0 = .ok (.aload_n 0, 1) := by decide +kernel
theorem dX5_claimAnew_1 : decode cX5_claimAnew 1 = .ok (.aload_n 0, 1) := by decide +kernel
theorem dX5_claimAnew_2 : decode cX5_claimAnew 2 = .ok (.getfield 44, 3) := by decide +kernel
theorem dX5_claimAnew_5 : decode cX5_claimAnew 5 = .ok (.ifCond .ne 11, 3) := by decide +kernel
theorem dX5_claimAnew_8 : decode cX5_claimAnew 8 = .ok (.aload_n 0, 1) := by decide +kernel
theorem dX5_claimAnew_9 : decode cX5_claimAnew 9 = .ok (.getfield 9, 3) := by decide +kernel
theorem dX5_claimAnew_12 : decode cX5_claimAnew 12 = .ok (.iconst 2, 1) := by decide +kernel
theorem dX5_claimAnew_13 : decode cX5_claimAnew 13 = .ok (.if_icmp .ne 7, 3) := by decide +kernel
theorem dX5_claimAnew_16 : decode cX5_claimAnew 16 = .ok (.iconst 1, 1) := by decide +kernel
theorem dX5_claimAnew_17 : decode cX5_claimAnew 17 = .ok (.goto 4, 3) := by decide +kernel
theorem dX5_claimAnew_20 : decode cX5_claimAnew 20 = .ok (.iconst 0, 1) := by decide +kernel
theorem dX5_claimAnew_21 : decode cX5_claimAnew 21 = .ok (.putfield 44, 3) := by decide +kernel
theorem dX5_claimAnew_24 : decode cX5_claimAnew 24 = .ok (.aload_n 0, 1) := by decide +kernel
theorem dX5_claimAnew_25 : decode cX5_claimAnew 25 = .ok (.iload_n 1, 1) := by decide +kernel
theorem dX5_claimAnew_26 : decode cX5_claimAnew 26 = .ok (.putfield 28, 3) := by decide +kernel
theorem dX5_claimAnew_29 : decode cX5_claimAnew 29 = .ok (.aload_n 0, 1) := by decide +kernel
theorem dX5_claimAnew_30 : decode cX5_claimAnew 30 = .ok (.iconst 1, 1) := by decide +kernel
theorem dX5_claimAnew_31 : decode cX5_claimAnew 31 = .ok (.putfield 9, 3) := by decide +kernel
theorem dX5_claimAnew_34 : decode cX5_claimAnew 34 = .ok (.aload_n 0, 1) := by decide +kernel
theorem dX5_claimAnew_35 : decode cX5_claimAnew 35 = .ok (.iconst 3, 1) := by decide +kernel
theorem dX5_claimAnew_36 : decode cX5_claimAnew 36 = .ok (.putfield 15, 3) := by decide +kernel
theorem dX5_claimAnew_39 : decode cX5_claimAnew 39 = .ok (.aload_n 0, 1) := by decide +kernel
theorem dX5_claimAnew_40 : decode cX5_claimAnew 40 = .ok (.dup, 1) := by decide +kernel
theorem dX5_claimAnew_41 : decode cX5_claimAnew 41 = .ok (.getfield 47, 3) := by decide +kernel
theorem dX5_claimAnew_44 : decode cX5_claimAnew 44 = .ok (.iconst 1, 1) := by decide +kernel
theorem dX5_claimAnew_45 : decode cX5_claimAnew 45 = .ok (.iadd, 1) := by decide +kernel
theorem dX5_claimAnew_46 : decode cX5_claimAnew 46 = .ok (.putfield 47, 3) := by decide +kernel
theorem dX5_claimAnew_49 : decode cX5_claimAnew 49 = .ok (.return_, 1) := by decide +kernel
theorem dX6_init_0 : decode cX6_init 0 = .ok (.aload_n 0, 1) := by decide +kernel
theorem dX6_init_1 : decode cX6_init 1 = .ok (.invokespecial 3, 3) := by decide +kernel
theorem dX6_init_4 : decode cX6_init 4 = .ok (.aload_n 0, 1) := by decide +kernel
theorem dX6_init_5 : decode cX6_init 5 = .ok (.bipush 32, 2) := by decide +kernel
theorem dX6_init_7 : decode cX6_init 7 = .ok (.newarray .int, 2) := by decide +kernel
theorem dX6_init_9 : decode cX6_init 9 = .ok (.putfield 9, 3) := by decide +kernel
theorem dX6_init_12 : decode cX6_init 12 = .ok (.aload_n 0, 1) := by decide +kernel
theorem dX6_init_13 : decode cX6_init 13 = .ok (.bipush 32, 2) := by decide +kernel
theorem dX6_init_15 : decode cX6_init 15 = .ok (.newarray .int, 2) := by decide +kernel
theorem dX6_init_17 : decode cX6_init 17 = .ok (.putfield 15, 3) := by decide +kernel
theorem dX6_init_20 : decode cX6_init 20 = .ok (.aload_n 0, 1) := by decide +kernel
theorem dX6_init_21 : decode cX6_init 21 = .ok (.bipush 32, 2) := by decide +kernel
theorem dX6_init_23 : decode cX6_init 23 = .ok (.newarray .int, 2) := by decide +kernel
theorem dX6_init_25 : decode cX6_init 25 = .ok (.putfield 18, 3) := by decide +kernel
theorem dX6_init_28 : decode cX6_init 28 = .ok (.aload_n 0, 1) := by decide +kernel
theorem dX6_init_29 : decode cX6_init 29 = .ok (.bipush 32, 2) := by decide +kernel
theorem dX6_init_31 : decode cX6_init 31 = .ok (.newarray .int, 2) := by decide +kernel
theorem dX6_init_33 : decode cX6_init 33 = .ok (.putfield 21, 3) := by decide +kernel
theorem dX6_init_36 : decode cX6_init 36 = .ok (.return_, 1) := by decide +kernel
theorem dX6_has_0 : decode cX6_has 0 = .ok (.aload_n 0, 1) := by decide +kernel
theorem dX6_has_1 : decode cX6_has 1 = .ok (.getfield 24, 3) := by decide +kernel
theorem dX6_has_4 : decode cX6_has 4 = .ok (.iload_n 1, 1) := by decide +kernel
theorem dX6_has_5 : decode cX6_has 5 = .ok (.invokestatic 28, 3) := by decide +kernel
theorem dX6_has_8 : decode cX6_has 8 = .ok (.ireturn, 1) := by decide +kernel
theorem dX6_size_0 : decode cX6_size 0 = .ok (.aload_n 0, 1) := by decide +kernel
theorem dX6_size_1 : decode cX6_size 1 = .ok (.getfield 24, 3) := by decide +kernel
theorem dX6_size_4 : decode cX6_size 4 = .ok (.invokestatic 32, 3) := by decide +kernel
theorem dX6_size_7 : decode cX6_size 7 = .ok (.ireturn, 1) := by decide +kernel
theorem dX6_left_0 : decode cX6_left 0 = .ok (.aload_n 0, 1) := by decide +kernel
theorem dX6_left_1 : decode cX6_left 1 = .ok (.getfield 21, 3) := by decide +kernel
theorem dX6_left_4 : decode cX6_left 4 = .ok (.iload_n 1, 1) := by decide +kernel
theorem dX6_left_5 : decode cX6_left 5 = .ok (.iaload, 1) := by decide +kernel
theorem dX6_left_6 : decode cX6_left 6 = .ok (.iload_n 2, 1) := by decide +kernel
theorem dX6_left_7 : decode cX6_left 7 = .ok (.isub, 1) := by decide +kernel
theorem dX6_left_8 : decode cX6_left 8 = .ok (.ireturn, 1) := by decide +kernel
theorem dX6_isFresh_0 : decode cX6_isFresh 0 = .ok (.aload_n 0, 1) := by decide +kernel
theorem dX6_isFresh_1 : decode cX6_isFresh 1 = .ok (.getfield 24, 3) := by decide +kernel
theorem dX6_isFresh_4 : decode cX6_isFresh 4 = .ok (.iload_n 1, 1) := by decide +kernel
theorem dX6_isFresh_5 : decode cX6_isFresh 5 = .ok (.invokestatic 28, 3) := by decide +kernel
theorem dX6_isFresh_8 : decode cX6_isFresh 8 = .ok (.ifCond .eq 26, 3) := by decide +kernel
theorem dX6_isFresh_11 : decode cX6_isFresh 11 = .ok (.iconst 2, 1) := by decide +kernel
theorem dX6_isFresh_12 : decode cX6_isFresh 12 = .ok (.aload_n 0, 1) := by decide +kernel
theorem dX6_isFresh_13 : decode cX6_isFresh 13 = .ok (.getfield 21, 3) := by decide +kernel
theorem dX6_isFresh_16 : decode cX6_isFresh 16 = .ok (.iload_n 1, 1) := by decide +kernel
theorem dX6_isFresh_17 : decode cX6_isFresh 17 = .ok (.iaload, 1) := by decide +kernel
theorem dX6_isFresh_18 : decode cX6_isFresh 18 = .ok (.iload_n 2, 1) := by decide +kernel
theorem dX6_isFresh_19 : decode cX6_isFresh 19 = .ok (.isub, 1) := by decide +kernel
theorem dX6_isFresh_20 : decode cX6_isFresh 20 = .ok (.imul, 1) := by decide +kernel
theorem dX6_isFresh_21 : decode cX6_isFresh 21 = .ok (.aload_n 0, 1) := by decide +kernel
theorem dX6_isFresh_22 : decode cX6_isFresh 22 = .ok (.getfield 18, 3) := by decide +kernel
theorem dX6_isFresh_25 : decode cX6_isFresh 25 = .ok (.iload_n 1, 1) := by decide +kernel
theorem dX6_isFresh_26 : decode cX6_isFresh 26 = .ok (.iaload, 1) := by decide +kernel
theorem dX6_isFresh_27 : decode cX6_isFresh 27 = .ok (.if_icmp .le 7, 3) := by decide +kernel
theorem dX6_isFresh_30 : decode cX6_isFresh 30 = .ok (.iconst 1, 1) := by decide +kernel
theorem dX6_isFresh_31 : decode cX6_isFresh 31 = .ok (.goto 4, 3) := by decide +kernel
theorem dX6_isFresh_34 : decode cX6_isFresh 34 = .ok (.iconst 0, 1) := by decide +kernel
theorem dX6_isFresh_35 : decode cX6_isFresh 35 = .ok (.ireturn, 1) := by decide +kernel
theorem dX6_put_0 : decode cX6_put 0 = .ok (.aload_n 0, 1) := by decide +kernel
theorem dX6_put_1 : decode cX6_put 1 = .ok (.dup, 1) := by decide +kernel
theorem dX6_put_2 : decode cX6_put 2 = .ok (.getfield 24, 3) := by decide +kernel
theorem dX6_put_5 : decode cX6_put 5 = .ok (.iconst 1, 1) := by decide +kernel
theorem dX6_put_6 : decode cX6_put 6 = .ok (.iload_n 1, 1) := by decide +kernel
theorem dX6_put_7 : decode cX6_put 7 = .ok (.ishl, 1) := by decide +kernel
theorem dX6_put_8 : decode cX6_put 8 = .ok (.ior, 1) := by decide +kernel
theorem dX6_put_9 : decode cX6_put 9 = .ok (.putfield 24, 3) := by decide +kernel
theorem dX6_put_12 : decode cX6_put 12 = .ok (.aload_n 0, 1) := by decide +kernel
theorem dX6_put_13 : decode cX6_put 13 = .ok (.getfield 9, 3) := by decide +kernel
theorem dX6_put_16 : decode cX6_put 16 = .ok (.iload_n 1, 1) := by decide +kernel
theorem dX6_put_17 : decode cX6_put 17 = .ok (.iload_n 2, 1) := by decide +kernel
theorem dX6_put_18 : decode cX6_put 18 = .ok (.iastore, 1) := by decide +kernel
theorem dX6_put_19 : decode cX6_put 19 = .ok (.aload_n 0, 1) := by decide +kernel
theorem dX6_put_20 : decode cX6_put 20 = .ok (.getfield 15, 3) := by decide +kernel
theorem dX6_put_23 : decode cX6_put 23 = .ok (.iload_n 1, 1) := by decide +kernel
theorem dX6_put_24 : decode cX6_put 24 = .ok (.iload_n 3, 1) := by decide +kernel
theorem dX6_put_25 : decode cX6_put 25 = .ok (.iastore, 1) := by decide +kernel
theorem dX6_put_26 : decode cX6_put 26 = .ok (.aload_n 0, 1) := by decide +kernel
theorem dX6_put_27 : decode cX6_put 27 = .ok (.getfield 18, 3) := by decide +kernel
theorem dX6_put_30 : decode cX6_put 30 = .ok (.iload_n 1, 1) := by decide +kernel
theorem dX6_put_31 : decode cX6_put 31 = .ok (.iload 4, 2) := by decide +kernel
theorem dX6_put_33 : decode cX6_put 33 = .ok (.iastore, 1) := by decide +kernel
theorem dX6_put_34 : decode cX6_put 34 = .ok (.aload_n 0, 1) := by decide +kernel
theorem dX6_put_35 : decode cX6_put 35 = .ok (.getfield 21, 3) := by decide +kernel
theorem dX6_put_38 : decode cX6_put 38 = .ok (.iload_n 1, 1) := by decide +kernel
theorem dX6_put_39 : decode cX6_put 39 = .ok (.iload 5, 2) := by decide +kernel
theorem dX6_put_41 : decode cX6_put 41 = .ok (.iastore, 1) := by decide +kernel
theorem dX6_put_42 : decode cX6_put 42 = .ok (.return_, 1) := by decide +kernel
theorem dX6_remove_0 : decode cX6_remove 0 = .ok (.aload_n 0, 1) := by decide +kernel
theorem dX6_remove_1 : decode cX6_remove 1 = .ok (.dup, 1) := by decide +kernel
theorem dX6_remove_2 : decode cX6_remove 2 = .ok (.getfield 24, 3) := by decide +kernel
theorem dX6_remove_5 : decode cX6_remove 5 = .ok (.iconst 1, 1) := by decide +kernel
theorem dX6_remove_6 : decode cX6_remove 6 = .ok (.iload_n 1, 1) := by decide +kernel
theorem dX6_remove_7 : decode cX6_remove 7 = .ok (.ishl, 1) := by decide +kernel
theorem dX6_remove_8 : decode cX6_remove 8 = .ok (.iconst (-1), 1) := by decide +kernel
theorem dX6_remove_9 : decode cX6_remove 9 = .ok (.ixor, 1) := by decide +kernel
theorem dX6_remove_10 : decode cX6_remove 10 = .ok (.iand, 1) := by decide +kernel
theorem dX6_remove_11 : decode cX6_remove 11 = .ok (.putfield 24, 3) := by decide +kernel
theorem dX6_remove_14 : decode cX6_remove 14 = .ok (.return_, 1) := by decide +kernel
theorem dX6_removeAll_0 : decode cX6_removeAll 0 = .ok (.aload_n 0, 1) := by decide +kernel
theorem dX6_removeAll_1 : decode cX6_removeAll 1 = .ok (.dup, 1) := by decide +kernel
theorem dX6_removeAll_2 : decode cX6_removeAll 2 = .ok (.getfield 24, 3) := by decide +kernel
theorem dX6_removeAll_5 : decode cX6_removeAll 5 = .ok (.iload_n 1, 1) := by decide +kernel
theorem dX6_removeAll_6 : decode cX6_removeAll 6 = .ok (.iconst (-1), 1) := by decide +kernel
theorem dX6_removeAll_7 : decode cX6_removeAll 7 = .ok (.ixor, 1) := by decide +kernel
theorem dX6_removeAll_8 : decode cX6_removeAll 8 = .ok (.iand, 1) := by decide +kernel
theorem dX6_removeAll_9 : decode cX6_removeAll 9 = .ok (.putfield 24, 3) := by decide +kernel
theorem dX6_removeAll_12 : decode cX6_removeAll 12 = .ok (.return_, 1) := by decide +kernel
theorem dX6_removeEnding_0 : decode cX6_removeEnding 0 = .ok (.aload_n 0, 1) := by decide +kernel
theorem dX6_removeEnding_1 : decode cX6_removeEnding 1 = .ok (.getfield 24, 3) := by decide +kernel
theorem dX6_removeEnding_4 : decode cX6_removeEnding 4 = .ok (.ifCond .ne 4, 3) := by decide +kernel
theorem dX6_removeEnding_7 : decode cX6_removeEnding 7 = .ok (.return_, 1) := by decide +kernel
theorem dX6_removeEnding_8 : decode cX6_removeEnding 8 = .ok (.iconst 0, 1) := by decide +kernel
theorem dX6_removeEnding_9 : decode cX6_removeEnding 9 = .ok (.istore_n 2, 1) := by decide +kernel
theorem dX6_removeEnding_10 : decode cX6_removeEnding 10 = .ok (.iload_n 2, 1) := by decide +kernel
theorem dX6_removeEnding_11 : decode cX6_removeEnding 11 = .ok (.bipush 32, 2) := by decide +kernel
theorem dX6_removeEnding_13 : decode cX6_removeEnding 13 = .ok (.if_icmp .ge 32, 3) := by decide +kernel
theorem dX6_removeEnding_16 : decode cX6_removeEnding 16 = .ok (.aload_n 0, 1) := by decide +kernel
theorem dX6_removeEnding_17 : decode cX6_removeEnding 17 = .ok (.getfield 21, 3) := by decide +kernel
theorem dX6_removeEnding_20 : decode cX6_removeEnding 20 = .ok (.iload_n 2, 1) := by decide +kernel
theorem dX6_removeEnding_21 : decode cX6_removeEnding 21 = .ok (.iaload, 1) := by decide +kernel
theorem dX6_removeEnding_22 : decode cX6_removeEnding 22 = .ok (.iload_n 1, 1) := by decide +kernel
theorem dX6_removeEnding_23 : decode cX6_removeEnding 23 = .ok (.if_icmp .gt 16, 3) := by decide +kernel
theorem dX6_removeEnding_26 : decode cX6_removeEnding 26 = .ok (.aload_n 0, 1) := by decide +kernel
theorem dX6_removeEnding_27 : decode cX6_removeEnding 27 = .ok (.iload_n 2, 1) := by decide +kernel
theorem dX6_removeEnding_28 : decode cX6_removeEnding 28 = .ok (.invokevirtual 38, 3) := by decide +kernel
theorem dX6_removeEnding_31 : decode cX6_removeEnding 31 = .ok (.ifCond .eq 8, 3) := by decide +kernel
theorem dX6_removeEnding_34 : decode cX6_removeEnding 34 = .ok (.aload_n 0, 1) := by decide +kernel
theorem dX6_removeEnding_35 : decode cX6_removeEnding 35 = .ok (.iload_n 2, 1) := by decide +kernel
theorem dX6_removeEnding_36 : decode cX6_removeEnding 36 = .ok (.invokevirtual 42, 3) := by decide +kernel
theorem dX6_removeEnding_39 : decode cX6_removeEnding 39 = .ok (.iinc 2 1, 3) := by decide +kernel
theorem dX6_removeEnding_42 : decode cX6_removeEnding 42 = .ok (.goto (-32), 3) := by decide +kernel
theorem dX6_removeEnding_45 : decode cX6_removeEnding 45 = .ok (.return_, 1) := by decide +kernel
theorem dX6_clear_0 : decode cX6_clear 0 = .ok (.aload_n 0, 1) := by decide +kernel
theorem dX6_clear_1 : decode cX6_clear 1 = .ok (.iconst 0, 1) := by decide +kernel
theorem dX6_clear_2 : decode cX6_clear 2 = .ok (.putfield 24, 3) := by decide +kernel
theorem dX6_clear_5 : decode cX6_clear 5 = .ok (.return_, 1) := by decide +kernel
theorem dX7_init_0 : decode cX7_init 0 = .ok (.aload_n 0, 1) := by decide +kernel
theorem dX7_init_1 : decode cX7_init 1 = .ok (.invokespecial 1, 3) := by decide +kernel
theorem dX7_init_4 : decode cX7_init 4 = .ok (.aload_n 0, 1) := by decide +kernel
theorem dX7_init_5 : decode cX7_init 5 = .ok (.bipush 12, 2) := by decide +kernel
theorem dX7_init_7 : decode cX7_init 7 = .ok (.anewarray 9, 3) := by decide +kernel
theorem dX7_init_10 : decode cX7_init 10 = .ok (.putfield 11, 3) := by decide +kernel
theorem dX7_init_13 : decode cX7_init 13 = .ok (.aload_n 0, 1) := by decide +kernel
theorem dX7_init_14 : decode cX7_init 14 = .ok (.bipush 32, 2) := by decide +kernel
theorem dX7_init_16 : decode cX7_init 16 = .ok (.anewarray 15, 3) := by decide +kernel
theorem dX7_init_19 : decode cX7_init 19 = .ok (.putfield 17, 3) := by decide +kernel
theorem dX7_init_22 : decode cX7_init 22 = .ok (.return_, 1) := by decide +kernel
theorem dX7_host_0 : decode cX7_host 0 = .ok (.iload_n 2, 1) := by decide +kernel
theorem dX7_host_1 : decode cX7_host 1 = .ok (.iconst 1, 1) := by decide +kernel
theorem dX7_host_2 : decode cX7_host 2 = .ok (.if_icmp .lt 19, 3) := by decide +kernel
theorem dX7_host_5 : decode cX7_host 5 = .ok (.iload_n 2, 1) := by decide +kernel
theorem dX7_host_6 : decode cX7_host 6 = .ok (.iload_n 3, 1) := by decide +kernel
theorem dX7_host_7 : decode cX7_host 7 = .ok (.if_icmp .gt 14, 3) := by decide +kernel
theorem dX7_host_10 : decode cX7_host 10 = .ok (.iload_n 3, 1) := by decide +kernel
theorem dX7_host_11 : decode cX7_host 11 = .ok (.sipush 250, 3) := by decide +kernel
theorem dX7_host_14 : decode cX7_host 14 = .ok (.if_icmp .gt 7, 3) := by decide +kernel
theorem dX7_host_17 : decode cX7_host 17 = .ok (.iconst 1, 1) := by decide +kernel
theorem dX7_host_18 : decode cX7_host 18 = .ok (.goto 4, 3) := by decide +kernel
theorem dX7_host_21 : decode cX7_host 21 = .ok (.iconst 0, 1) := by decide +kernel
theorem dX7_host_22 : decode cX7_host 22 = .ok (.istore 5, 2) := by decide +kernel
theorem dX7_host_24 : decode cX7_host 24 = .ok (.iload_n 1, 1) := by decide +kernel
theorem dX7_host_25 : decode cX7_host 25 = .ok (.invokestatic 21, 3) := by decide +kernel
theorem dX7_host_28 : decode cX7_host 28 = .ok (.ifCond .eq 30, 3) := by decide +kernel
theorem dX7_host_31 : decode cX7_host 31 = .ok (.iload 5, 2) := by decide +kernel
theorem dX7_host_33 : decode cX7_host 33 = .ok (.ifCond .eq 25, 3) := by decide +kernel
theorem dX7_host_36 : decode cX7_host 36 = .ok (.iload 4, 2) := by decide +kernel
theorem dX7_host_38 : decode cX7_host 38 = .ok (.ifCond .lt 20, 3) := by decide +kernel
theorem dX7_host_41 : decode cX7_host 41 = .ok (.iload 4, 2) := by decide +kernel
theorem dX7_host_43 : decode cX7_host 43 = .ok (.sipush 1000, 3) := by decide +kernel
theorem dX7_host_46 : decode cX7_host 46 = .ok (.if_icmp .gt 12, 3) := by decide +kernel
theorem dX7_host_49 : decode cX7_host 49 = .ok (.aload_n 0, 1) := by decide +kernel
theorem dX7_host_50 : decode cX7_host 50 = .ok (.getfield 25, 3) := by decide +kernel
theorem dX7_host_53 : decode cX7_host 53 = .ok (.bipush 12, 2) := by decide +kernel
theorem dX7_host_55 : decode cX7_host 55 = .ok (.if_icmp .lt 5, 3) := by decide +kernel
theorem dX7_host_58 : decode cX7_host 58 = .ok (.iconst (-1), 1) := by decide +kernel
theorem dX7_host_59 : decode cX7_host 59 = .ok (.ireturn, 1) := by decide +kernel
theorem dX7_host_60 : decode cX7_host 60 = .ok (.new 9, 3) := by decide +kernel
theorem dX7_host_63 : decode cX7_host 63 = .ok (.dup, 1) := by decide +kernel
theorem dX7_host_64 : decode cX7_host 64 = .ok (.aload_n 0, 1) := by decide +kernel
theorem dX7_host_65 : decode cX7_host 65 = .ok (.getfield 25, 3) := by decide +kernel
theorem dX7_host_68 : decode cX7_host 68 = .ok (.iload_n 1, 1) := by decide +kernel
theorem dX7_host_69 : decode cX7_host 69 = .ok (.iload_n 2, 1) := by decide +kernel
theorem dX7_host_70 : decode cX7_host 70 = .ok (.iload_n 3, 1) := by decide +kernel
theorem dX7_host_71 : decode cX7_host 71 = .ok (.iload 4, 2) := by decide +kernel
theorem dX7_host_73 : decode cX7_host 73 = .ok (.invokespecial 29, 3) := by decide +kernel
theorem dX7_host_76 : decode cX7_host 76 = .ok (.astore 6, 2) := by decide +kernel
theorem dX7_host_78 : decode cX7_host 78 = .ok (.aload_n 0, 1) := by decide +kernel
theorem dX7_host_79 : decode cX7_host 79 = .ok (.getfield 11, 3) := by decide +kernel
theorem dX7_host_82 : decode cX7_host 82 = .ok (.aload_n 0, 1) := by decide +kernel
theorem dX7_host_83 : decode cX7_host 83 = .ok (.getfield 25, 3) := by decide +kernel
theorem dX7_host_86 : decode cX7_host 86 = .ok (.aload 6, 2) := by decide +kernel
theorem dX7_host_88 : decode cX7_host 88 = .ok (.aastore, 1) := by decide +kernel
theorem dX7_host_89 : decode cX7_host 89 = .ok (.aload_n 0, 1) := by decide +kernel
theorem dX7_host_90 : decode cX7_host 90 = .ok (.dup, 1) := by decide +kernel
theorem dX7_host_91 : decode cX7_host 91 = .ok (.getfield 25, 3) := by decide +kernel
theorem dX7_host_94 : decode cX7_host 94 = .ok (.iconst 1, 1) := by decide +kernel
theorem dX7_host_95 : decode cX7_host 95 = .ok (.iadd, 1) := by decide +kernel
theorem dX7_host_96 : decode cX7_host 96 = .ok (.putfield 25, 3) := by decide +kernel
theorem dX7_host_99 : decode cX7_host 99 = .ok (.aload 6, 2) := by decide +kernel
theorem dX7_host_101 : decode cX7_host 101 = .ok (.getfield 32, 3) := by decide +kernel
theorem dX7_host_104 : decode cX7_host 104 = .ok (.ireturn, 1) := by decide +kernel
theorem dX7_offer_0 : decode cX7_offer 0 = .ok (.aload_n 0, 1) := by decide +kernel
theorem dX7_offer_1 : decode cX7_offer 1 = .ok (.iload_n 1, 1) := by decide +kernel
theorem dX7_offer_2 : decode cX7_offer 2 = .ok (.invokevirtual 35, 3) := by decide +kernel
theorem dX7_offer_5 : decode cX7_offer 5 = .ok (.astore 6, 2) := by decide +kernel
theorem dX7_offer_7 : decode cX7_offer 7 = .ok (.aload 6, 2) := by decide +kernel
theorem dX7_offer_9 : decode cX7_offer 9 = .ok (.ifnull 12, 3) := by decide +kernel
theorem dX7_offer_12 : decode cX7_offer 12 = .ok (.aload 6, 2) := by decide +kernel
theorem dX7_offer_14 : decode cX7_offer 14 = .ok (.iload_n 3, 1) := by decide +kernel
theorem dX7_offer_15 : decode cX7_offer 15 = .ok (.invokevirtual 39, 3) := by decide +kernel
theorem dX7_offer_18 : decode cX7_offer 18 = .ok (.ifCond .ne 5, 3) := by decide +kernel
theorem dX7_offer_21 : decode cX7_offer 21 = .ok (.iconst (-1), 1) := by decide +kernel
theorem dX7_offer_22 : decode cX7_offer 22 = .ok (.ireturn, 1) := by decide +kernel
theorem dX7_offer_23 : decode cX7_offer 23 = .ok (.aload_n 0, 1) := by decide +kernel
theorem dX7_offer_24 : decode cX7_offer 24 = .ok (.aload 6, 2) := by decide +kernel
theorem dX7_offer_26 : decode cX7_offer 26 = .ok (.iload_n 2, 1) := by decide +kernel
theorem dX7_offer_27 : decode cX7_offer 27 = .ok (.iload_n 3, 1) := by decide +kernel
theorem dX7_offer_28 : decode cX7_offer 28 = .ok (.iload 4, 2) := by decide +kernel
theorem dX7_offer_30 : decode cX7_offer 30 = .ok (.iload 5, 2) := by decide +kernel
theorem dX7_offer_32 : decode cX7_offer 32 = .ok (.iconst 0, 1) := by decide +kernel
theorem dX7_offer_33 : decode cX7_offer 33 = .ok (.invokevirtual 42, 3) := by decide +kernel
theorem dX7_offer_36 : decode cX7_offer 36 = .ok (.ireturn, 1) := by decide +kernel
theorem dX7_lie_0 : decode cX7_lie 0 = .ok (.aload_n 0, 1) := by decide +kernel
theorem dX7_lie_1 : decode cX7_lie 1 = .ok (.iload_n 1, 1) := by decide +kernel
theorem dX7_lie_2 : decode cX7_lie 2 = .ok (.invokevirtual 35, 3) := by decide +kernel
theorem dX7_lie_5 : decode cX7_lie 5 = .ok (.astore 6, 2) := by decide +kernel
theorem dX7_lie_7 : decode cX7_lie 7 = .ok (.aload 6, 2) := by decide +kernel
theorem dX7_lie_9 : decode cX7_lie 9 = .ok (.ifnull 15, 3) := by decide +kernel
theorem dX7_lie_12 : decode cX7_lie 12 = .ok (.iload_n 3, 1) := by decide +kernel
theorem dX7_lie_13 : decode cX7_lie 13 = .ok (.iconst 1, 1) := by decide +kernel
theorem dX7_lie_14 : decode cX7_lie 14 = .ok (.if_icmp .lt 10, 3) := by decide +kernel
theorem dX7_lie_17 : decode cX7_lie 17 = .ok (.iload_n 3, 1) := by decide +kernel
theorem dX7_lie_18 : decode cX7_lie 18 = .ok (.sipush 250, 3) := by decide +kernel
theorem dX7_lie_21 : decode cX7_lie 21 = .ok (.if_icmp .le 5, 3) := by decide +kernel
theorem dX7_lie_24 : decode cX7_lie 24 = .ok (.iconst (-1), 1) := by decide +kernel
theorem dX7_lie_25 : decode cX7_lie 25 = .ok (.ireturn, 1) := by decide +kernel
theorem dX7_lie_26 : decode cX7_lie 26 = .ok (.aload_n 0, 1) := by decide +kernel
theorem dX7_lie_27 : decode cX7_lie 27 = .ok (.aload 6, 2) := by decide +kernel
theorem dX7_lie_29 : decode cX7_lie 29 = .ok (.iload_n 2, 1) := by decide +kernel
theorem dX7_lie_30 : decode cX7_lie 30 = .ok (.iload_n 3, 1) := by decide +kernel
theorem dX7_lie_31 : decode cX7_lie 31 = .ok (.iload 4, 2) := by decide +kernel
theorem dX7_lie_33 : decode cX7_lie 33 = .ok (.iload 5, 2) := by decide +kernel
theorem dX7_lie_35 : decode cX7_lie 35 = .ok (.iconst 1, 1) := by decide +kernel
theorem dX7_lie_36 : decode cX7_lie 36 = .ok (.invokevirtual 42, 3) := by decide +kernel
theorem dX7_lie_39 : decode cX7_lie 39 = .ok (.ireturn, 1) := by decide +kernel
theorem dX7_drop_0 : decode cX7_drop 0 = .ok (.aload_n 0, 1) := by decide +kernel
theorem dX7_drop_1 : decode cX7_drop 1 = .ok (.iload_n 1, 1) := by decide +kernel
theorem dX7_drop_2 : decode cX7_drop 2 = .ok (.invokevirtual 46, 3) := by decide +kernel
theorem dX7_drop_5 : decode cX7_drop 5 = .ok (.astore_n 2, 1) := by decide +kernel
theorem dX7_drop_6 : decode cX7_drop 6 = .ok (.aload_n 2, 1) := by decide +kernel
theorem dX7_drop_7 : decode cX7_drop 7 = .ok (.ifnonnull 5, 3) := by decide +kernel
theorem dX7_drop_10 : decode cX7_drop 10 = .ok (.iconst 0, 1) := by decide +kernel
theorem dX7_drop_11 : decode cX7_drop 11 = .ok (.ireturn, 1) := by decide +kernel
theorem dX7_drop_12 : decode cX7_drop 12 = .ok (.aload_n 2, 1) := by decide +kernel
theorem dX7_drop_13 : decode cX7_drop 13 = .ok (.invokevirtual 50, 3) := by decide +kernel
theorem dX7_drop_16 : decode cX7_drop 16 = .ok (.iconst 1, 1) := by decide +kernel
theorem dX7_drop_17 : decode cX7_drop 17 = .ok (.ireturn, 1) := by decide +kernel
theorem dX7_change_0 : decode cX7_change 0 = .ok (.aload_n 0, 1) := by decide +kernel
theorem dX7_change_1 : decode cX7_change 1 = .ok (.iload_n 1, 1) := by decide +kernel
theorem dX7_change_2 : decode cX7_change 2 = .ok (.invokevirtual 46, 3) := by decide +kernel
theorem dX7_change_5 : decode cX7_change 5 = .ok (.astore_n 3, 1) := by decide +kernel
theorem dX7_change_6 : decode cX7_change 6 = .ok (.aload_n 3, 1) := by decide +kernel
theorem dX7_change_7 : decode cX7_change 7 = .ok (.ifnull 10, 3) := by decide +kernel
theorem dX7_change_10 : decode cX7_change 10 = .ok (.iload_n 2, 1) := by decide +kernel
theorem dX7_change_11 : decode cX7_change 11 = .ok (.invokestatic 53, 3) := by decide +kernel
theorem dX7_change_14 : decode cX7_change 14 = .ok (.ifCond .ne 5, 3) := by decide +kernel
theorem dX7_change_17 : decode cX7_change 17 = .ok (.iconst 0, 1) := by decide +kernel
theorem dX7_change_18 : decode cX7_change 18 = .ok (.ireturn, 1) := by decide +kernel
theorem dX7_change_19 : decode cX7_change 19 = .ok (.aload_n 3, 1) := by decide +kernel
theorem dX7_change_20 : decode cX7_change 20 = .ok (.iload_n 2, 1) := by decide +kernel
theorem dX7_change_21 : decode cX7_change 21 = .ok (.putfield 56, 3) := by decide +kernel
theorem dX7_change_24 : decode cX7_change 24 = .ok (.aload_n 3, 1) := by decide +kernel
theorem dX7_change_25 : decode cX7_change 25 = .ok (.getfield 59, 3) := by decide +kernel
theorem dX7_change_28 : decode cX7_change 28 = .ok (.iconst 2, 1) := by decide +kernel
theorem dX7_change_29 : decode cX7_change 29 = .ok (.if_icmp .ne 11, 3) := by decide +kernel
theorem dX7_change_32 : decode cX7_change 32 = .ok (.aload_n 3, 1) := by decide +kernel
theorem dX7_change_33 : decode cX7_change 33 = .ok (.aload_n 0, 1) := by decide +kernel
theorem dX7_change_34 : decode cX7_change 34 = .ok (.getfield 62, 3) := by decide +kernel
theorem dX7_change_37 : decode cX7_change 37 = .ok (.putfield 65, 3) := by decide +kernel
theorem dX7_change_40 : decode cX7_change 40 = .ok (.iconst 1, 1) := by decide +kernel
theorem dX7_change_41 : decode cX7_change 41 = .ok (.ireturn, 1) := by decide +kernel
theorem dX7_ask_0 : decode cX7_ask 0 = .ok (.aload_n 0, 1) := by decide +kernel
theorem dX7_ask_1 : decode cX7_ask 1 = .ok (.iload_n 1, 1) := by decide +kernel
theorem dX7_ask_2 : decode cX7_ask 2 = .ok (.invokevirtual 35, 3) := by decide +kernel
theorem dX7_ask_5 : decode cX7_ask 5 = .ok (.astore 4, 2) := by decide +kernel
theorem dX7_ask_7 : decode cX7_ask 7 = .ok (.aload 4, 2) := by decide +kernel
theorem dX7_ask_9 : decode cX7_ask 9 = .ok (.ifnull 29, 3) := by decide +kernel
theorem dX7_ask_12 : decode cX7_ask 12 = .ok (.iload_n 2, 1) := by decide +kernel
theorem dX7_ask_13 : decode cX7_ask 13 = .ok (.invokestatic 68, 3) := by decide +kernel
theorem dX7_ask_16 : decode cX7_ask 16 = .ok (.ifCond .eq 22, 3) := by decide +kernel
theorem dX7_ask_19 : decode cX7_ask 19 = .ok (.iload_n 3, 1) := by decide +kernel
theorem dX7_ask_20 : decode cX7_ask 20 = .ok (.invokestatic 53, 3) := by decide +kernel
theorem dX7_ask_23 : decode cX7_ask 23 = .ok (.ifCond .eq 15, 3) := by decide +kernel
theorem dX7_ask_26 : decode cX7_ask 26 = .ok (.aload 4, 2) := by decide +kernel
theorem dX7_ask_28 : decode cX7_ask 28 = .ok (.getfield 71, 3) := by decide +kernel
theorem dX7_ask_31 : decode cX7_ask 31 = .ok (.iload_n 2, 1) := by decide +kernel
theorem dX7_ask_32 : decode cX7_ask 32 = .ok (.invokevirtual 75, 3) := by decide +kernel
theorem dX7_ask_35 : decode cX7_ask 35 = .ok (.ifCond .eq 5, 3) := by decide +kernel
theorem dX7_ask_38 : decode cX7_ask 38 = .ok (.iconst 0, 1) := by decide +kernel
theorem dX7_ask_39 : decode cX7_ask 39 = .ok (.ireturn, 1) := by decide +kernel
theorem dX7_ask_40 : decode cX7_ask 40 = .ok (.aload 4, 2) := by decide +kernel
theorem dX7_ask_42 : decode cX7_ask 42 = .ok (.getfield 71, 3) := by decide +kernel
theorem dX7_ask_45 : decode cX7_ask 45 = .ok (.iload_n 2, 1) := by decide +kernel
theorem dX7_ask_46 : decode cX7_ask 46 = .ok (.iload_n 3, 1) := by decide +kernel
theorem dX7_ask_47 : decode cX7_ask 47 = .ok (.aload_n 0, 1) := by decide +kernel
theorem dX7_ask_48 : decode cX7_ask 48 = .ok (.getfield 62, 3) := by decide +kernel
theorem dX7_ask_51 : decode cX7_ask 51 = .ok (.aload_n 0, 1) := by decide +kernel
theorem dX7_ask_52 : decode cX7_ask 52 = .ok (.aload 4, 2) := by decide +kernel
theorem dX7_ask_54 : decode cX7_ask 54 = .ok (.invokevirtual 80, 3) := by decide +kernel
theorem dX7_ask_57 : decode cX7_ask 57 = .ok (.iadd, 1) := by decide +kernel
theorem dX7_ask_58 : decode cX7_ask 58 = .ok (.invokevirtual 84, 3) := by decide +kernel
theorem dX7_ask_61 : decode cX7_ask 61 = .ok (.iconst 1, 1) := by decide +kernel
theorem dX7_ask_62 : decode cX7_ask 62 = .ok (.ireturn, 1) := by decide +kernel
theorem dX7_sleep_0 : decode cX7_sleep 0 = .ok (.aload_n 0, 1) := by decide +kernel
theorem dX7_sleep_1 : decode cX7_sleep 1 = .ok (.iload_n 1, 1) := by decide +kernel
theorem dX7_sleep_2 : decode cX7_sleep 2 = .ok (.invokevirtual 35, 3) := by decide +kernel
theorem dX7_sleep_5 : decode cX7_sleep 5 = .ok (.astore_n 3, 1) := by decide +kernel
theorem dX7_sleep_6 : decode cX7_sleep 6 = .ok (.aload_n 0, 1) := by decide +kernel
theorem dX7_sleep_7 : decode cX7_sleep 7 = .ok (.iload_n 2, 1) := by decide +kernel
theorem dX7_sleep_8 : decode cX7_sleep 8 = .ok (.invokevirtual 35, 3) := by decide +kernel
theorem dX7_sleep_11 : decode cX7_sleep 11 = .ok (.astore 4, 2) := by decide +kernel
theorem dX7_sleep_13 : decode cX7_sleep 13 = .ok (.aload_n 3, 1) := by decide +kernel
theorem dX7_sleep_14 : decode cX7_sleep 14 = .ok (.ifnull 14, 3) := by decide +kernel
theorem dX7_sleep_17 : decode cX7_sleep 17 = .ok (.aload 4, 2) := by decide +kernel
theorem dX7_sleep_19 : decode cX7_sleep 19 = .ok (.ifnull 9, 3) := by decide +kernel
theorem dX7_sleep_22 : decode cX7_sleep 22 = .ok (.aload_n 3, 1) := by decide +kernel
theorem dX7_sleep_23 : decode cX7_sleep 23 = .ok (.aload 4, 2) := by decide +kernel
theorem dX7_sleep_25 : decode cX7_sleep 25 = .ok (.if_acmp .ne 5, 3) := by decide +kernel
theorem dX7_sleep_28 : decode cX7_sleep 28 = .ok (.iconst 0, 1) := by decide +kernel
theorem dX7_sleep_29 : decode cX7_sleep 29 = .ok (.ireturn, 1) := by decide +kernel
theorem dX7_sleep_30 : decode cX7_sleep 30 = .ok (.aload_n 3, 1) := by decide +kernel
theorem dX7_sleep_31 : decode cX7_sleep 31 = .ok (.getfield 88, 3) := by decide +kernel
theorem dX7_sleep_34 : decode cX7_sleep 34 = .ok (.aload 4, 2) := by decide +kernel
theorem dX7_sleep_36 : decode cX7_sleep 36 = .ok (.getfield 88, 3) := by decide +kernel
theorem dX7_sleep_39 : decode cX7_sleep 39 = .ok (.if_icmp .ne 10, 3) := by decide +kernel
theorem dX7_sleep_42 : decode cX7_sleep 42 = .ok (.aload_n 3, 1) := by decide +kernel
theorem dX7_sleep_43 : decode cX7_sleep 43 = .ok (.getfield 91, 3) := by decide +kernel
theorem dX7_sleep_46 : decode cX7_sleep 46 = .ok (.ifCond .eq 5, 3) := by decide +kernel
theorem dX7_sleep_49 : decode cX7_sleep 49 = .ok (.iconst 0, 1) := by decide +kernel
theorem dX7_sleep_50 : decode cX7_sleep 50 = .ok (.ireturn, 1) := by decide +kernel
theorem dX7_sleep_51 : decode cX7_sleep 51 = .ok (.aload_n 3, 1) := by decide +kernel
theorem dX7_sleep_52 : decode cX7_sleep 52 = .ok (.iconst 1, 1) := by decide +kernel
theorem dX7_sleep_53 : decode cX7_sleep 53 = .ok (.putfield 95, 3) := by decide +kernel
theorem dX7_sleep_56 : decode cX7_sleep 56 = .ok (.aload_n 3, 1) := by decide +kernel
theorem dX7_sleep_57 : decode cX7_sleep 57 = .ok (.aload 4, 2) := by decide +kernel
theorem dX7_sleep_59 : decode cX7_sleep 59 = .ok (.putfield 96, 3) := by decide +kernel
theorem dX7_sleep_62 : decode cX7_sleep 62 = .ok (.iconst 1, 1) := by decide +kernel
theorem dX7_sleep_63 : decode cX7_sleep 63 = .ok (.ireturn, 1) := by decide +kernel
theorem dX7_wake_0 : decode cX7_wake 0 = .ok (.aload_n 0, 1) := by decide +kernel
theorem dX7_wake_1 : decode cX7_wake 1 = .ok (.iload_n 1, 1) := by decide +kernel
theorem dX7_wake_2 : decode cX7_wake 2 = .ok (.invokevirtual 100, 3) := by decide +kernel
theorem dX7_wake_5 : decode cX7_wake 5 = .ok (.astore_n 2, 1) := by decide +kernel
theorem dX7_wake_6 : decode cX7_wake 6 = .ok (.aload_n 2, 1) := by decide +kernel
theorem dX7_wake_7 : decode cX7_wake 7 = .ok (.ifnull 11, 3) := by decide +kernel
theorem dX7_wake_10 : decode cX7_wake 10 = .ok (.aload_n 2, 1) := by decide +kernel
theorem dX7_wake_11 : decode cX7_wake 11 = .ok (.getfield 95, 3) := by decide +kernel
theorem dX7_wake_14 : decode cX7_wake 14 = .ok (.iconst 1, 1) := by decide +kernel
theorem dX7_wake_15 : decode cX7_wake 15 = .ok (.if_icmp .eq 5, 3) := by decide +kernel
theorem dX7_wake_18 : decode cX7_wake 18 = .ok (.iconst 0, 1) := by decide +kernel
theorem dX7_wake_19 : decode cX7_wake 19 = .ok (.ireturn, 1) := by decide +kernel
theorem dX7_wake_20 : decode cX7_wake 20 = .ok (.aload_n 2, 1) := by decide +kernel
theorem dX7_wake_21 : decode cX7_wake 21 = .ok (.iconst 2, 1) := by decide +kernel
theorem dX7_wake_22 : decode cX7_wake 22 = .ok (.putfield 95, 3) := by decide +kernel
theorem dX7_wake_25 : decode cX7_wake 25 = .ok (.iconst 1, 1) := by decide +kernel
theorem dX7_wake_26 : decode cX7_wake 26 = .ok (.ireturn, 1) := by decide +kernel
theorem dX7_fall_0 : decode cX7_fall 0 = .ok (.aload_n 0, 1) := by decide +kernel
theorem dX7_fall_1 : decode cX7_fall 1 = .ok (.iload_n 1, 1) := by decide +kernel
theorem dX7_fall_2 : decode cX7_fall 2 = .ok (.invokevirtual 100, 3) := by decide +kernel
theorem dX7_fall_5 : decode cX7_fall 5 = .ok (.astore_n 2, 1) := by decide +kernel
theorem dX7_fall_6 : decode cX7_fall 6 = .ok (.aload_n 2, 1) := by decide +kernel
theorem dX7_fall_7 : decode cX7_fall 7 = .ok (.ifnull 10, 3) := by decide +kernel
theorem dX7_fall_10 : decode cX7_fall 10 = .ok (.aload_n 2, 1) := by decide +kernel
theorem dX7_fall_11 : decode cX7_fall 11 = .ok (.getfield 95, 3) := by decide +kernel
theorem dX7_fall_14 : decode cX7_fall 14 = .ok (.ifCond .ne 5, 3) := by decide +kernel
theorem dX7_fall_17 : decode cX7_fall 17 = .ok (.iconst 0, 1) := by decide +kernel
theorem dX7_fall_18 : decode cX7_fall 18 = .ok (.ireturn, 1) := by decide +kernel
theorem dX7_fall_19 : decode cX7_fall 19 = .ok (.iconst 0, 1) := by decide +kernel
theorem dX7_fall_20 : decode cX7_fall 20 = .ok (.istore_n 3, 1) := by decide +kernel
theorem dX7_fall_21 : decode cX7_fall 21 = .ok (.iload_n 3, 1) := by decide +kernel
theorem dX7_fall_22 : decode cX7_fall 22 = .ok (.aload_n 0, 1) := by decide +kernel
theorem dX7_fall_23 : decode cX7_fall 23 = .ok (.getfield 103, 3) := by decide +kernel
theorem dX7_fall_26 : decode cX7_fall 26 = .ok (.if_icmp .ge 41, 3) := by decide +kernel
theorem dX7_fall_29 : decode cX7_fall 29 = .ok (.aload_n 0, 1) := by decide +kernel
theorem dX7_fall_30 : decode cX7_fall 30 = .ok (.getfield 17, 3) := by decide +kernel
theorem dX7_fall_33 : decode cX7_fall 33 = .ok (.iload_n 3, 1) := by decide +kernel
theorem dX7_fall_34 : decode cX7_fall 34 = .ok (.aaload, 1) := by decide +kernel
theorem dX7_fall_35 : decode cX7_fall 35 = .ok (.getfield 106, 3) := by decide +kernel
theorem dX7_fall_38 : decode cX7_fall 38 = .ok (.aload_n 2, 1) := by decide +kernel
theorem dX7_fall_39 : decode cX7_fall 39 = .ok (.if_acmp .ne 22, 3) := by decide +kernel
theorem dX7_fall_42 : decode cX7_fall 42 = .ok (.aload_n 0, 1) := by decide +kernel
theorem dX7_fall_43 : decode cX7_fall 43 = .ok (.getfield 17, 3) := by decide +kernel
theorem dX7_fall_46 : decode cX7_fall 46 = .ok (.iload_n 3, 1) := by decide +kernel
theorem dX7_fall_47 : decode cX7_fall 47 = .ok (.aaload, 1) := by decide +kernel
theorem dX7_fall_48 : decode cX7_fall 48 = .ok (.invokevirtual 50, 3) := by decide +kernel
theorem dX7_fall_51 : decode cX7_fall 51 = .ok (.aload_n 0, 1) := by decide +kernel
theorem dX7_fall_52 : decode cX7_fall 52 = .ok (.getfield 17, 3) := by decide +kernel
theorem dX7_fall_55 : decode cX7_fall 55 = .ok (.iload_n 3, 1) := by decide +kernel
theorem dX7_fall_56 : decode cX7_fall 56 = .ok (.aaload, 1) := by decide +kernel
theorem dX7_fall_57 : decode cX7_fall 57 = .ok (.iconst 0, 1) := by decide +kernel
theorem dX7_fall_58 : decode cX7_fall 58 = .ok (.putfield 109, 3) := by decide +kernel
theorem dX7_fall_61 : decode cX7_fall 61 = .ok (.iinc 3 1, 3) := by decide +kernel
theorem dX7_fall_64 : decode cX7_fall 64 = .ok (.goto (-43), 3) := by decide +kernel
theorem dX7_fall_67 : decode cX7_fall 67 = .ok (.aload_n 2, 1) := by decide +kernel
theorem dX7_fall_68 : decode cX7_fall 68 = .ok (.invokevirtual 112, 3) := by decide +kernel
theorem dX7_fall_71 : decode cX7_fall 71 = .ok (.iconst 1, 1) := by decide +kernel
theorem dX7_fall_72 : decode cX7_fall 72 = .ok (.ireturn, 1) := by decide +kernel
theorem dX7_leave_0 : decode cX7_leave 0 = .ok (.aload_n 0, 1) := by decide +kernel
theorem dX7_leave_1 : decode cX7_leave 1 = .ok (.iload_n 1, 1) := by decide +kernel
theorem dX7_leave_2 : decode cX7_leave 2 = .ok (.invokevirtual 115, 3) := by decide +kernel
theorem dX7_leave_5 : decode cX7_leave 5 = .ok (.astore_n 2, 1) := by decide +kernel
theorem dX7_leave_6 : decode cX7_leave 6 = .ok (.aload_n 2, 1) := by decide +kernel
theorem dX7_leave_7 : decode cX7_leave 7 = .ok (.ifnonnull 5, 3) := by decide +kernel
theorem dX7_leave_10 : decode cX7_leave 10 = .ok (.iconst 0, 1) := by decide +kernel
theorem dX7_leave_11 : decode cX7_leave 11 = .ok (.ireturn, 1) := by decide +kernel
theorem dX7_leave_12 : decode cX7_leave 12 = .ok (.iconst 0, 1) := by decide +kernel
theorem dX7_leave_13 : decode cX7_leave 13 = .ok (.istore_n 3, 1) := by decide +kernel
theorem dX7_leave_14 : decode cX7_leave 14 = .ok (.iload_n 3, 1) := by decide +kernel
theorem dX7_leave_15 : decode cX7_leave 15 = .ok (.aload_n 0, 1) := by decide +kernel
theorem dX7_leave_16 : decode cX7_leave 16 = .ok (.getfield 103, 3) := by decide +kernel
theorem dX7_leave_19 : decode cX7_leave 19 = .ok (.if_icmp .ge 31, 3) := by decide +kernel
theorem dX7_leave_22 : decode cX7_leave 22 = .ok (.aload_n 0, 1) := by decide +kernel
theorem dX7_leave_23 : decode cX7_leave 23 = .ok (.getfield 17, 3) := by decide +kernel
theorem dX7_leave_26 : decode cX7_leave 26 = .ok (.iload_n 3, 1) := by decide +kernel
theorem dX7_leave_27 : decode cX7_leave 27 = .ok (.aaload, 1) := by decide +kernel
theorem dX7_leave_28 : decode cX7_leave 28 = .ok (.getfield 106, 3) := by decide +kernel
theorem dX7_leave_31 : decode cX7_leave 31 = .ok (.aload_n 2, 1) := by decide +kernel
theorem dX7_leave_32 : decode cX7_leave 32 = .ok (.if_acmp .ne 12, 3) := by decide +kernel
theorem dX7_leave_35 : decode cX7_leave 35 = .ok (.aload_n 0, 1) := by decide +kernel
theorem dX7_leave_36 : decode cX7_leave 36 = .ok (.getfield 17, 3) := by decide +kernel
theorem dX7_leave_39 : decode cX7_leave 39 = .ok (.iload_n 3, 1) := by decide +kernel
theorem dX7_leave_40 : decode cX7_leave 40 = .ok (.aaload, 1) := by decide +kernel
theorem dX7_leave_41 : decode cX7_leave 41 = .ok (.invokevirtual 50, 3) := by decide +kernel
theorem dX7_leave_44 : decode cX7_leave 44 = .ok (.iinc 3 1, 3) := by decide +kernel
theorem dX7_leave_47 : decode cX7_leave 47 = .ok (.goto (-33), 3) := by decide +kernel
theorem dX7_leave_50 : decode cX7_leave 50 = .ok (.iconst 0, 1) := by decide +kernel
theorem dX7_leave_51 : decode cX7_leave 51 = .ok (.istore_n 3, 1) := by decide +kernel
theorem dX7_leave_52 : decode cX7_leave 52 = .ok (.iload_n 3, 1) := by decide +kernel
theorem dX7_leave_53 : decode cX7_leave 53 = .ok (.aload_n 0, 1) := by decide +kernel
theorem dX7_leave_54 : decode cX7_leave 54 = .ok (.getfield 25, 3) := by decide +kernel
theorem dX7_leave_57 : decode cX7_leave 57 = .ok (.if_icmp .ge 32, 3) := by decide +kernel
theorem dX7_leave_60 : decode cX7_leave 60 = .ok (.aload_n 0, 1) := by decide +kernel
theorem dX7_leave_61 : decode cX7_leave 61 = .ok (.getfield 11, 3) := by decide +kernel
theorem dX7_leave_64 : decode cX7_leave 64 = .ok (.iload_n 3, 1) := by decide +kernel
theorem dX7_leave_65 : decode cX7_leave 65 = .ok (.aaload, 1) := by decide +kernel
theorem dX7_leave_66 : decode cX7_leave 66 = .ok (.getfield 96, 3) := by decide +kernel
theorem dX7_leave_69 : decode cX7_leave 69 = .ok (.aload_n 2, 1) := by decide +kernel
theorem dX7_leave_70 : decode cX7_leave 70 = .ok (.if_acmp .ne 13, 3) := by decide +kernel
theorem dX7_leave_73 : decode cX7_leave 73 = .ok (.aload_n 0, 1) := by decide +kernel
theorem dX7_leave_74 : decode cX7_leave 74 = .ok (.aload_n 0, 1) := by decide +kernel
theorem dX7_leave_75 : decode cX7_leave 75 = .ok (.getfield 11, 3) := by decide +kernel
theorem dX7_leave_78 : decode cX7_leave 78 = .ok (.iload_n 3, 1) := by decide +kernel
theorem dX7_leave_79 : decode cX7_leave 79 = .ok (.aaload, 1) := by decide +kernel
theorem dX7_leave_80 : decode cX7_leave 80 = .ok (.invokevirtual 118, 3) := by decide +kernel
theorem dX7_leave_83 : decode cX7_leave 83 = .ok (.iinc 3 1, 3) := by decide +kernel
theorem dX7_leave_86 : decode cX7_leave 86 = .ok (.goto (-34), 3) := by decide +kernel
theorem dX7_leave_89 : decode cX7_leave 89 = .ok (.aload_n 2, 1) := by decide +kernel
theorem dX7_leave_90 : decode cX7_leave 90 = .ok (.iconst 3, 1) := by decide +kernel
theorem dX7_leave_91 : decode cX7_leave 91 = .ok (.putfield 95, 3) := by decide +kernel
theorem dX7_leave_94 : decode cX7_leave 94 = .ok (.iconst 1, 1) := by decide +kernel
theorem dX7_leave_95 : decode cX7_leave 95 = .ok (.ireturn, 1) := by decide +kernel
theorem dX7_keeper_0 : decode cX7_keeper 0 = .ok (.aload_n 0, 1) := by decide +kernel
theorem dX7_keeper_1 : decode cX7_keeper 1 = .ok (.iload_n 1, 1) := by decide +kernel
theorem dX7_keeper_2 : decode cX7_keeper 2 = .ok (.invokevirtual 35, 3) := by decide +kernel
theorem dX7_keeper_5 : decode cX7_keeper 5 = .ok (.astore_n 3, 1) := by decide +kernel
theorem dX7_keeper_6 : decode cX7_keeper 6 = .ok (.aload_n 3, 1) := by decide +kernel
theorem dX7_keeper_7 : decode cX7_keeper 7 = .ok (.ifnull 11, 3) := by decide +kernel
theorem dX7_keeper_10 : decode cX7_keeper 10 = .ok (.aload_n 3, 1) := by decide +kernel
theorem dX7_keeper_11 : decode cX7_keeper 11 = .ok (.getfield 91, 3) := by decide +kernel
theorem dX7_keeper_14 : decode cX7_keeper 14 = .ok (.iload_n 2, 1) := by decide +kernel
theorem dX7_keeper_15 : decode cX7_keeper 15 = .ok (.if_icmp .ne 5, 3) := by decide +kernel
theorem dX7_keeper_18 : decode cX7_keeper 18 = .ok (.iconst 0, 1) := by decide +kernel
theorem dX7_keeper_19 : decode cX7_keeper 19 = .ok (.ireturn, 1) := by decide +kernel
theorem dX7_keeper_20 : decode cX7_keeper 20 = .ok (.aload_n 3, 1) := by decide +kernel
theorem dX7_keeper_21 : decode cX7_keeper 21 = .ok (.iload_n 2, 1) := by decide +kernel
theorem dX7_keeper_22 : decode cX7_keeper 22 = .ok (.putfield 91, 3) := by decide +kernel
theorem dX7_keeper_25 : decode cX7_keeper 25 = .ok (.iconst 1, 1) := by decide +kernel
theorem dX7_keeper_26 : decode cX7_keeper 26 = .ok (.ireturn, 1) := by decide +kernel
theorem dX7_bridge_0 : decode cX7_bridge 0 = .ok (.aload_n 0, 1) := by decide +kernel
theorem dX7_bridge_1 : decode cX7_bridge 1 = .ok (.iload_n 1, 1) := by decide +kernel
theorem dX7_bridge_2 : decode cX7_bridge 2 = .ok (.invokevirtual 35, 3) := by decide +kernel
theorem dX7_bridge_5 : decode cX7_bridge 5 = .ok (.astore 4, 2) := by decide +kernel
theorem dX7_bridge_7 : decode cX7_bridge 7 = .ok (.aload 4, 2) := by decide +kernel
theorem dX7_bridge_9 : decode cX7_bridge 9 = .ok (.ifnull 29, 3) := by decide +kernel
theorem dX7_bridge_12 : decode cX7_bridge 12 = .ok (.iload_n 2, 1) := by decide +kernel
theorem dX7_bridge_13 : decode cX7_bridge 13 = .ok (.invokestatic 21, 3) := by decide +kernel
theorem dX7_bridge_16 : decode cX7_bridge 16 = .ok (.ifCond .eq 22, 3) := by decide +kernel
theorem dX7_bridge_19 : decode cX7_bridge 19 = .ok (.iload_n 2, 1) := by decide +kernel
theorem dX7_bridge_20 : decode cX7_bridge 20 = .ok (.aload 4, 2) := by decide +kernel
theorem dX7_bridge_22 : decode cX7_bridge 22 = .ok (.getfield 88, 3) := by decide +kernel
theorem dX7_bridge_25 : decode cX7_bridge 25 = .ok (.if_icmp .eq 13, 3) := by decide +kernel
theorem dX7_bridge_28 : decode cX7_bridge 28 = .ok (.iload_n 3, 1) := by decide +kernel
theorem dX7_bridge_29 : decode cX7_bridge 29 = .ok (.ifCond .lt 9, 3) := by decide +kernel
theorem dX7_bridge_32 : decode cX7_bridge 32 = .ok (.iload_n 3, 1) := by decide +kernel
theorem dX7_bridge_33 : decode cX7_bridge 33 = .ok (.ldc 122, 2) := by decide +kernel
theorem dX7_bridge_35 : decode cX7_bridge 35 = .ok (.if_icmp .le 5, 3) := by decide +kernel
theorem dX7_bridge_38 : decode cX7_bridge 38 = .ok (.iconst 0, 1) := by decide +kernel
theorem dX7_bridge_39 : decode cX7_bridge 39 = .ok (.ireturn, 1) := by decide +kernel
theorem dX7_bridge_40 : decode cX7_bridge 40 = .ok (.aload 4, 2) := by decide +kernel
theorem dX7_bridge_42 : decode cX7_bridge 42 = .ok (.getfield 91, 3) := by decide +kernel
theorem dX7_bridge_45 : decode cX7_bridge 45 = .ok (.ifCond .ne 14, 3) := by decide +kernel
theorem dX7_bridge_48 : decode cX7_bridge 48 = .ok (.aload 4, 2) := by decide +kernel
theorem dX7_bridge_50 : decode cX7_bridge 50 = .ok (.getfield 71, 3) := by decide +kernel
theorem dX7_bridge_53 : decode cX7_bridge 53 = .ok (.invokevirtual 123, 3) := by decide +kernel
theorem dX7_bridge_56 : decode cX7_bridge 56 = .ok (.ifCond .ne 5, 3) := by decide +kernel
theorem dX7_bridge_59 : decode cX7_bridge 59 = .ok (.iconst 0, 1) := by decide +kernel
theorem dX7_bridge_60 : decode cX7_bridge 60 = .ok (.ireturn, 1) := by decide +kernel
theorem dX7_bridge_61 : decode cX7_bridge 61 = .ok (.aload_n 0, 1) := by decide +kernel
theorem dX7_bridge_62 : decode cX7_bridge 62 = .ok (.aload 4, 2) := by decide +kernel
theorem dX7_bridge_64 : decode cX7_bridge 64 = .ok (.invokevirtual 127, 3) := by decide +kernel
theorem dX7_bridge_67 : decode cX7_bridge 67 = .ok (.ifCond .ne 12, 3) := by decide +kernel
theorem dX7_bridge_70 : decode cX7_bridge 70 = .ok (.aload_n 0, 1) := by decide +kernel
theorem dX7_bridge_71 : decode cX7_bridge 71 = .ok (.aload 4, 2) := by decide +kernel
theorem dX7_bridge_73 : decode cX7_bridge 73 = .ok (.invokevirtual 131, 3) := by decide +kernel
theorem dX7_bridge_76 : decode cX7_bridge 76 = .ok (.ifCond .eq 5, 3) := by decide +kernel
theorem dX7_bridge_79 : decode cX7_bridge 79 = .ok (.iconst 0, 1) := by decide +kernel
theorem dX7_bridge_80 : decode cX7_bridge 80 = .ok (.ireturn, 1) := by decide +kernel
theorem dX7_bridge_81 : decode cX7_bridge 81 = .ok (.aload 4, 2) := by decide +kernel
theorem dX7_bridge_83 : decode cX7_bridge 83 = .ok (.getfield 134, 3) := by decide +kernel
theorem dX7_bridge_86 : decode cX7_bridge 86 = .ok (.invokevirtual 138, 3) := by decide +kernel
theorem dX7_bridge_89 : decode cX7_bridge 89 = .ok (.aload 4, 2) := by decide +kernel
theorem dX7_bridge_91 : decode cX7_bridge 91 = .ok (.getfield 143, 3) := by decide +kernel
theorem dX7_bridge_94 : decode cX7_bridge 94 = .ok (.invokevirtual 147, 3) := by decide +kernel
theorem dX7_bridge_97 : decode cX7_bridge 97 = .ok (.aload 4, 2) := by decide +kernel
theorem dX7_bridge_99 : decode cX7_bridge 99 = .ok (.new 150, 3) := by decide +kernel
theorem dX7_bridge_102 : decode cX7_bridge 102 = .ok (.dup, 1) := by decide +kernel
theorem dX7_bridge_103 : decode cX7_bridge 103 = .ok (.iload_n 2, 1) := by decide +kernel
theorem dX7_bridge_104 : decode cX7_bridge 104 = .ok (.iload_n 3, 1) := by decide +kernel
theorem dX7_bridge_105 : decode cX7_bridge 105 = .ok (.invokespecial 152, 3) := by decide +kernel
theorem dX7_bridge_108 : decode cX7_bridge 108 = .ok (.putfield 155, 3) := by decide +kernel
theorem dX7_bridge_111 : decode cX7_bridge 111 = .ok (.iconst 1, 1) := by decide +kernel
theorem dX7_bridge_112 : decode cX7_bridge 112 = .ok (.ireturn, 1) := by decide +kernel
theorem dX7_lose_0 : decode cX7_lose 0 = .ok (.aload_n 0, 1) := by decide +kernel
theorem dX7_lose_1 : decode cX7_lose 1 = .ok (.iload_n 1, 1) := by decide +kernel
theorem dX7_lose_2 : decode cX7_lose 2 = .ok (.invokevirtual 100, 3) := by decide +kernel
theorem dX7_lose_5 : decode cX7_lose 5 = .ok (.astore_n 3, 1) := by decide +kernel
theorem dX7_lose_6 : decode cX7_lose 6 = .ok (.aload_n 3, 1) := by decide +kernel
theorem dX7_lose_7 : decode cX7_lose 7 = .ok (.ifnull 13, 3) := by decide +kernel
theorem dX7_lose_10 : decode cX7_lose 10 = .ok (.iload_n 2, 1) := by decide +kernel
theorem dX7_lose_11 : decode cX7_lose 11 = .ok (.ifCond .lt 9, 3) := by decide +kernel
theorem dX7_lose_14 : decode cX7_lose 14 = .ok (.iload_n 2, 1) := by decide +kernel
theorem dX7_lose_15 : decode cX7_lose 15 = .ok (.bipush 100, 2) := by decide +kernel
theorem dX7_lose_17 : decode cX7_lose 17 = .ok (.if_icmp .le 5, 3) := by decide +kernel
theorem dX7_lose_20 : decode cX7_lose 20 = .ok (.iconst 0, 1) := by decide +kernel
theorem dX7_lose_21 : decode cX7_lose 21 = .ok (.ireturn, 1) := by decide +kernel
theorem dX7_lose_22 : decode cX7_lose 22 = .ok (.aload_n 3, 1) := by decide +kernel
theorem dX7_lose_23 : decode cX7_lose 23 = .ok (.iload_n 2, 1) := by decide +kernel
theorem dX7_lose_24 : decode cX7_lose 24 = .ok (.putfield 159, 3) := by decide +kernel
theorem dX7_lose_27 : decode cX7_lose 27 = .ok (.iconst 1, 1) := by decide +kernel
theorem dX7_lose_28 : decode cX7_lose 28 = .ok (.ireturn, 1) := by decide +kernel
theorem dX7_deaf_0 : decode cX7_deaf 0 = .ok (.aload_n 0, 1) := by decide +kernel
theorem dX7_deaf_1 : decode cX7_deaf 1 = .ok (.iload_n 1, 1) := by decide +kernel
theorem dX7_deaf_2 : decode cX7_deaf 2 = .ok (.invokevirtual 100, 3) := by decide +kernel
theorem dX7_deaf_5 : decode cX7_deaf 5 = .ok (.astore_n 3, 1) := by decide +kernel
theorem dX7_deaf_6 : decode cX7_deaf 6 = .ok (.aload_n 3, 1) := by decide +kernel
theorem dX7_deaf_7 : decode cX7_deaf 7 = .ok (.ifnull 13, 3) := by decide +kernel
theorem dX7_deaf_10 : decode cX7_deaf 10 = .ok (.iload_n 2, 1) := by decide +kernel
theorem dX7_deaf_11 : decode cX7_deaf 11 = .ok (.ifCond .lt 9, 3) := by decide +kernel
theorem dX7_deaf_14 : decode cX7_deaf 14 = .ok (.iload_n 2, 1) := by decide +kernel
theorem dX7_deaf_15 : decode cX7_deaf 15 = .ok (.bipush 100, 2) := by decide +kernel
theorem dX7_deaf_17 : decode cX7_deaf 17 = .ok (.if_icmp .le 5, 3) := by decide +kernel
theorem dX7_deaf_20 : decode cX7_deaf 20 = .ok (.iconst 0, 1) := by decide +kernel
theorem dX7_deaf_21 : decode cX7_deaf 21 = .ok (.ireturn, 1) := by decide +kernel
theorem dX7_deaf_22 : decode cX7_deaf 22 = .ok (.aload_n 3, 1) := by decide +kernel
theorem dX7_deaf_23 : decode cX7_deaf 23 = .ok (.iload_n 2, 1) := by decide +kernel
theorem dX7_deaf_24 : decode cX7_deaf 24 = .ok (.putfield 162, 3) := by decide +kernel
theorem dX7_deaf_27 : decode cX7_deaf 27 = .ok (.iconst 1, 1) := by decide +kernel
theorem dX7_deaf_28 : decode cX7_deaf 28 = .ok (.ireturn, 1) := by decide +kernel
theorem dX7_join_0 : decode cX7_join 0 = .ok (.iload_n 1, 1) := by decide +kernel
theorem dX7_join_1 : decode cX7_join 1 = .ok (.invokestatic 21, 3) := by decide +kernel
theorem dX7_join_4 : decode cX7_join 4 = .ok (.ifCond .eq 15, 3) := by decide +kernel
theorem dX7_join_7 : decode cX7_join 7 = .ok (.iload_n 2, 1) := by decide +kernel
theorem dX7_join_8 : decode cX7_join 8 = .ok (.invokestatic 21, 3) := by decide +kernel
theorem dX7_join_11 : decode cX7_join 11 = .ok (.ifCond .eq 8, 3) := by decide +kernel
theorem dX7_join_14 : decode cX7_join 14 = .ok (.iload_n 1, 1) := by decide +kernel
theorem dX7_join_15 : decode cX7_join 15 = .ok (.iload_n 2, 1) := by decide +kernel
theorem dX7_join_16 : decode cX7_join 16 = .ok (.if_icmp .ne 5, 3) := by decide +kernel
theorem dX7_join_19 : decode cX7_join 19 = .ok (.iconst 0, 1) := by decide +kernel
theorem dX7_join_20 : decode cX7_join 20 = .ok (.ireturn, 1) := by decide +kernel
theorem dX7_join_21 : decode cX7_join 21 = .ok (.iconst 0, 1) := by decide +kernel
theorem dX7_join_22 : decode cX7_join 22 = .ok (.istore_n 3, 1) := by decide +kernel
theorem dX7_join_23 : decode cX7_join 23 = .ok (.iload_n 3, 1) := by decide +kernel
theorem dX7_join_24 : decode cX7_join 24 = .ok (.aload_n 0, 1) := by decide +kernel
theorem dX7_join_25 : decode cX7_join 25 = .ok (.getfield 25, 3) := by decide +kernel
theorem dX7_join_28 : decode cX7_join 28 = .ok (.if_icmp .ge 20, 3) := by decide +kernel
theorem dX7_join_31 : decode cX7_join 31 = .ok (.aload_n 0, 1) := by decide +kernel
theorem dX7_join_32 : decode cX7_join 32 = .ok (.getfield 11, 3) := by decide +kernel
theorem dX7_join_35 : decode cX7_join 35 = .ok (.iload_n 3, 1) := by decide +kernel
theorem dX7_join_36 : decode cX7_join 36 = .ok (.aaload, 1) := by decide +kernel
theorem dX7_join_37 : decode cX7_join 37 = .ok (.iload_n 2, 1) := by decide +kernel
theorem dX7_join_38 : decode cX7_join 38 = .ok (.iload_n 1, 1) := by decide +kernel
theorem dX7_join_39 : decode cX7_join 39 = .ok (.invokevirtual 165, 3) := by decide +kernel
theorem dX7_join_42 : decode cX7_join 42 = .ok (.iinc 3 1, 3) := by decide +kernel
theorem dX7_join_45 : decode cX7_join 45 = .ok (.goto (-22), 3) := by decide +kernel
theorem dX7_join_48 : decode cX7_join 48 = .ok (.iconst 0, 1) := by decide +kernel
theorem dX7_join_49 : decode cX7_join 49 = .ok (.istore_n 3, 1) := by decide +kernel
theorem dX7_join_50 : decode cX7_join 50 = .ok (.iload_n 3, 1) := by decide +kernel
theorem dX7_join_51 : decode cX7_join 51 = .ok (.aload_n 0, 1) := by decide +kernel
theorem dX7_join_52 : decode cX7_join 52 = .ok (.getfield 103, 3) := by decide +kernel
theorem dX7_join_55 : decode cX7_join 55 = .ok (.if_icmp .ge 51, 3) := by decide +kernel
theorem dX7_join_58 : decode cX7_join 58 = .ok (.aload_n 0, 1) := by decide +kernel
theorem dX7_join_59 : decode cX7_join 59 = .ok (.getfield 17, 3) := by decide +kernel
theorem dX7_join_62 : decode cX7_join 62 = .ok (.iload_n 3, 1) := by decide +kernel
theorem dX7_join_63 : decode cX7_join 63 = .ok (.aaload, 1) := by decide +kernel
theorem dX7_join_64 : decode cX7_join 64 = .ok (.getfield 59, 3) := by decide +kernel
theorem dX7_join_67 : decode cX7_join 67 = .ok (.iconst 2, 1) := by decide +kernel
theorem dX7_join_68 : decode cX7_join 68 = .ok (.if_icmp .ne 32, 3) := by decide +kernel
theorem dX7_join_71 : decode cX7_join 71 = .ok (.aload_n 0, 1) := by decide +kernel
theorem dX7_join_72 : decode cX7_join 72 = .ok (.getfield 17, 3) := by decide +kernel
theorem dX7_join_75 : decode cX7_join 75 = .ok (.iload_n 3, 1) := by decide +kernel
theorem dX7_join_76 : decode cX7_join 76 = .ok (.aaload, 1) := by decide +kernel
theorem dX7_join_77 : decode cX7_join 77 = .ok (.getfield 106, 3) := by decide +kernel
theorem dX7_join_80 : decode cX7_join 80 = .ok (.getfield 88, 3) := by decide +kernel
theorem dX7_join_83 : decode cX7_join 83 = .ok (.iload_n 1, 1) := by decide +kernel
theorem dX7_join_84 : decode cX7_join 84 = .ok (.if_icmp .ne 16, 3) := by decide +kernel
theorem dX7_join_87 : decode cX7_join 87 = .ok (.aload_n 0, 1) := by decide +kernel
theorem dX7_join_88 : decode cX7_join 88 = .ok (.getfield 17, 3) := by decide +kernel
theorem dX7_join_91 : decode cX7_join 91 = .ok (.iload_n 3, 1) := by decide +kernel
theorem dX7_join_92 : decode cX7_join 92 = .ok (.aaload, 1) := by decide +kernel
theorem dX7_join_93 : decode cX7_join 93 = .ok (.aload_n 0, 1) := by decide +kernel
theorem dX7_join_94 : decode cX7_join 94 = .ok (.getfield 62, 3) := by decide +kernel
theorem dX7_join_97 : decode cX7_join 97 = .ok (.putfield 65, 3) := by decide +kernel
theorem dX7_join_100 : decode cX7_join 100 = .ok (.iinc 3 1, 3) := by decide +kernel
theorem dX7_join_103 : decode cX7_join 103 = .ok (.goto (-53), 3) := by decide +kernel
theorem dX7_join_106 : decode cX7_join 106 = .ok (.iconst 1, 1) := by decide +kernel
theorem dX7_join_107 : decode cX7_join 107 = .ok (.ireturn, 1) := by decide +kernel
theorem dX7_tick_0 : decode cX7_tick 0 = .ok (.iload_n 1, 1) := by decide +kernel
theorem dX7_tick_1 : decode cX7_tick 1 = .ok (.iconst 1, 1) := by decide +kernel
theorem dX7_tick_2 : decode cX7_tick 2 = .ok (.if_icmp .lt 21, 3) := by decide +kernel
theorem dX7_tick_5 : decode cX7_tick 5 = .ok (.iload_n 1, 1) := by decide +kernel
theorem dX7_tick_6 : decode cX7_tick 6 = .ok (.bipush 50, 2) := by decide +kernel
theorem dX7_tick_8 : decode cX7_tick 8 = .ok (.if_icmp .gt 15, 3) := by decide +kernel
theorem dX7_tick_11 : decode cX7_tick 11 = .ok (.aload_n 0, 1) := by decide +kernel
theorem dX7_tick_12 : decode cX7_tick 12 = .ok (.getfield 62, 3) := by decide +kernel
theorem dX7_tick_15 : decode cX7_tick 15 = .ok (.iload_n 1, 1) := by decide +kernel
theorem dX7_tick_16 : decode cX7_tick 16 = .ok (.iadd, 1) := by decide +kernel
theorem dX7_tick_17 : decode cX7_tick 17 = .ok (.sipush 30000, 3) := by decide +kernel
theorem dX7_tick_20 : decode cX7_tick 20 = .ok (.if_icmp .le 5, 3) := by decide +kernel
theorem dX7_tick_23 : decode cX7_tick 23 = .ok (.iconst (-1), 1) := by decide +kernel
theorem dX7_tick_24 : decode cX7_tick 24 = .ok (.ireturn, 1) := by decide +kernel
theorem dX7_tick_25 : decode cX7_tick 25 = .ok (.iconst 0, 1) := by decide +kernel
theorem dX7_tick_26 : decode cX7_tick 26 = .ok (.istore_n 2, 1) := by decide +kernel
theorem dX7_tick_27 : decode cX7_tick 27 = .ok (.iload_n 2, 1) := by decide +kernel
theorem dX7_tick_28 : decode cX7_tick 28 = .ok (.iload_n 1, 1) := by decide +kernel
theorem dX7_tick_29 : decode cX7_tick 29 = .ok (.if_icmp .ge 35, 3) := by decide +kernel
theorem dX7_tick_32 : decode cX7_tick 32 = .ok (.aload_n 0, 1) := by decide +kernel
theorem dX7_tick_33 : decode cX7_tick 33 = .ok (.invokevirtual 168, 3) := by decide +kernel
theorem dX7_tick_36 : decode cX7_tick 36 = .ok (.aload_n 0, 1) := by decide +kernel
theorem dX7_tick_37 : decode cX7_tick 37 = .ok (.invokevirtual 171, 3) := by decide +kernel
theorem dX7_tick_40 : decode cX7_tick 40 = .ok (.aload_n 0, 1) := by decide +kernel
theorem dX7_tick_41 : decode cX7_tick 41 = .ok (.invokevirtual 174, 3) := by decide +kernel
theorem dX7_tick_44 : decode cX7_tick 44 = .ok (.aload_n 0, 1) := by decide +kernel
theorem dX7_tick_45 : decode cX7_tick 45 = .ok (.invokevirtual 177, 3) := by decide +kernel
theorem dX7_tick_48 : decode cX7_tick 48 = .ok (.aload_n 0, 1) := by decide +kernel
theorem dX7_tick_49 : decode cX7_tick 49 = .ok (.dup, 1) := by decide +kernel
theorem dX7_tick_50 : decode cX7_tick 50 = .ok (.getfield 62, 3) := by decide +kernel
theorem dX7_tick_53 : decode cX7_tick 53 = .ok (.iconst 1, 1) := by decide +kernel
theorem dX7_tick_54 : decode cX7_tick 54 = .ok (.iadd, 1) := by decide +kernel
theorem dX7_tick_55 : decode cX7_tick 55 = .ok (.putfield 62, 3) := by decide +kernel
theorem dX7_tick_58 : decode cX7_tick 58 = .ok (.iinc 2 1, 3) := by decide +kernel
theorem dX7_tick_61 : decode cX7_tick 61 = .ok (.goto (-34), 3) := by decide +kernel
theorem dX7_tick_64 : decode cX7_tick 64 = .ok (.aload_n 0, 1) := by decide +kernel
theorem dX7_tick_65 : decode cX7_tick 65 = .ok (.getfield 62, 3) := by decide +kernel
theorem dX7_tick_68 : decode cX7_tick 68 = .ok (.ireturn, 1) := by decide +kernel
theorem dX7_find_0 : decode cX7_find 0 = .ok (.aload_n 0, 1) := by decide +kernel
theorem dX7_find_1 : decode cX7_find 1 = .ok (.iload_n 1, 1) := by decide +kernel
theorem dX7_find_2 : decode cX7_find 2 = .ok (.invokevirtual 100, 3) := by decide +kernel
theorem dX7_find_5 : decode cX7_find 5 = .ok (.astore 5, 2) := by decide +kernel
theorem dX7_find_7 : decode cX7_find 7 = .ok (.aload 5, 2) := by decide +kernel
theorem dX7_find_9 : decode cX7_find 9 = .ok (.ifnull 8, 3) := by decide +kernel
theorem dX7_find_12 : decode cX7_find 12 = .ok (.iload 4, 2) := by decide +kernel
theorem dX7_find_14 : decode cX7_find 14 = .ok (.ifCond .ge 5, 3) := by decide +kernel
theorem dX7_find_17 : decode cX7_find 17 = .ok (.iconst (-1), 1) := by decide +kernel
theorem dX7_find_18 : decode cX7_find 18 = .ok (.ireturn, 1) := by decide +kernel
theorem dX7_find_19 : decode cX7_find 19 = .ok (.iconst 0, 1) := by decide +kernel
theorem dX7_find_20 : decode cX7_find 20 = .ok (.istore 6, 2) := by decide +kernel
theorem dX7_find_22 : decode cX7_find 22 = .ok (.iload 6, 2) := by decide +kernel
theorem dX7_find_24 : decode cX7_find 24 = .ok (.aload_n 0, 1) := by decide +kernel
theorem dX7_find_25 : decode cX7_find 25 = .ok (.getfield 103, 3) := by decide +kernel
theorem dX7_find_28 : decode cX7_find 28 = .ok (.if_icmp .ge 100, 3) := by decide +kernel
theorem dX7_find_31 : decode cX7_find 31 = .ok (.aload_n 0, 1) := by decide +kernel
theorem dX7_find_32 : decode cX7_find 32 = .ok (.aload 5, 2) := by decide +kernel
theorem dX7_find_34 : decode cX7_find 34 = .ok (.getfield 134, 3) := by decide +kernel
theorem dX7_find_37 : decode cX7_find 37 = .ok (.iload 6, 2) := by decide +kernel
theorem dX7_find_39 : decode cX7_find 39 = .ok (.iload_n 2, 1) := by decide +kernel
theorem dX7_find_40 : decode cX7_find 40 = .ok (.iload_n 3, 1) := by decide +kernel
theorem dX7_find_41 : decode cX7_find 41 = .ok (.invokevirtual 180, 3) := by decide +kernel
theorem dX7_find_44 : decode cX7_find 44 = .ok (.ifCond .eq 78, 3) := by decide +kernel
theorem dX7_find_47 : decode cX7_find 47 = .ok (.iconst 0, 1) := by decide +kernel
theorem dX7_find_48 : decode cX7_find 48 = .ok (.istore 7, 2) := by decide +kernel
theorem dX7_find_50 : decode cX7_find 50 = .ok (.iconst 0, 1) := by decide +kernel
theorem dX7_find_51 : decode cX7_find 51 = .ok (.istore 8, 2) := by decide +kernel
theorem dX7_find_53 : decode cX7_find 53 = .ok (.iload 8, 2) := by decide +kernel
theorem dX7_find_55 : decode cX7_find 55 = .ok (.aload_n 0, 1) := by decide +kernel
theorem dX7_find_56 : decode cX7_find 56 = .ok (.getfield 103, 3) := by decide +kernel
theorem dX7_find_59 : decode cX7_find 59 = .ok (.if_icmp .ge 53, 3) := by decide +kernel
theorem dX7_find_62 : decode cX7_find 62 = .ok (.aload_n 0, 1) := by decide +kernel
theorem dX7_find_63 : decode cX7_find 63 = .ok (.aload 5, 2) := by decide +kernel
theorem dX7_find_65 : decode cX7_find 65 = .ok (.getfield 134, 3) := by decide +kernel
theorem dX7_find_68 : decode cX7_find 68 = .ok (.iload 8, 2) := by decide +kernel
theorem dX7_find_70 : decode cX7_find 70 = .ok (.iload_n 2, 1) := by decide +kernel
theorem dX7_find_71 : decode cX7_find 71 = .ok (.iload_n 3, 1) := by decide +kernel
theorem dX7_find_72 : decode cX7_find 72 = .ok (.invokevirtual 180, 3) := by decide +kernel
theorem dX7_find_75 : decode cX7_find 75 = .ok (.ifCond .eq 31, 3) := by decide +kernel
theorem dX7_find_78 : decode cX7_find 78 = .ok (.aload 5, 2) := by decide +kernel
theorem dX7_find_80 : decode cX7_find 80 = .ok (.getfield 134, 3) := by decide +kernel
theorem dX7_find_83 : decode cX7_find 83 = .ok (.getfield 184, 3) := by decide +kernel
theorem dX7_find_86 : decode cX7_find 86 = .ok (.iload 8, 2) := by decide +kernel
theorem dX7_find_88 : decode cX7_find 88 = .ok (.iaload, 1) := by decide +kernel
theorem dX7_find_89 : decode cX7_find 89 = .ok (.aload 5, 2) := by decide +kernel
theorem dX7_find_91 : decode cX7_find 91 = .ok (.getfield 134, 3) := by decide +kernel
theorem dX7_find_94 : decode cX7_find 94 = .ok (.getfield 184, 3) := by decide +kernel
theorem dX7_find_97 : decode cX7_find 97 = .ok (.iload 6, 2) := by decide +kernel
theorem dX7_find_99 : decode cX7_find 99 = .ok (.iaload, 1) := by decide +kernel
theorem dX7_find_100 : decode cX7_find 100 = .ok (.if_icmp .ge 6, 3) := by decide +kernel
theorem dX7_find_103 : decode cX7_find 103 = .ok (.iinc 7 1, 3) := by decide +kernel
theorem dX7_find_106 : decode cX7_find 106 = .ok (.iinc 8 1, 3) := by decide +kernel
theorem dX7_find_109 : decode cX7_find 109 = .ok (.goto (-56), 3) := by decide +kernel
theorem dX7_find_112 : decode cX7_find 112 = .ok (.iload 7, 2) := by decide +kernel
theorem dX7_find_114 : decode cX7_find 114 = .ok (.iload 4, 2) := by decide +kernel
theorem dX7_find_116 : decode cX7_find 116 = .ok (.if_icmp .ne 6, 3) := by decide +kernel
theorem dX7_find_119 : decode cX7_find 119 = .ok (.iload 6, 2) := by decide +kernel
theorem dX7_find_121 : decode cX7_find 121 = .ok (.ireturn, 1) := by decide +kernel
theorem dX7_find_122 : decode cX7_find 122 = .ok (.iinc 6 1, 3) := by decide +kernel
theorem dX7_find_125 : decode cX7_find 125 = .ok (.goto (-103), 3) := by decide +kernel
theorem dX7_find_128 : decode cX7_find 128 = .ok (.iconst (-1), 1) := by decide +kernel
theorem dX7_find_129 : decode cX7_find 129 = .ok (.ireturn, 1) := by decide +kernel
theorem dX7_record_0 : decode cX7_record 0 = .ok (.aload_n 0, 1) := by decide +kernel
theorem dX7_record_1 : decode cX7_record 1 = .ok (.iload_n 1, 1) := by decide +kernel
theorem dX7_record_2 : decode cX7_record 2 = .ok (.invokevirtual 100, 3) := by decide +kernel
theorem dX7_record_5 : decode cX7_record 5 = .ok (.astore 4, 2) := by decide +kernel
theorem dX7_record_7 : decode cX7_record 7 = .ok (.aload 4, 2) := by decide +kernel
theorem dX7_record_9 : decode cX7_record 9 = .ok (.ifnull 23, 3) := by decide +kernel
theorem dX7_record_12 : decode cX7_record 12 = .ok (.aload_n 0, 1) := by decide +kernel
theorem dX7_record_13 : decode cX7_record 13 = .ok (.iload_n 2, 1) := by decide +kernel
theorem dX7_record_14 : decode cX7_record 14 = .ok (.invokevirtual 188, 3) := by decide +kernel
theorem dX7_record_17 : decode cX7_record 17 = .ok (.ifnull 15, 3) := by decide +kernel
theorem dX7_record_20 : decode cX7_record 20 = .ok (.aload 4, 2) := by decide +kernel
theorem dX7_record_22 : decode cX7_record 22 = .ok (.getfield 134, 3) := by decide +kernel
theorem dX7_record_25 : decode cX7_record 25 = .ok (.iload_n 2, 1) := by decide +kernel
theorem dX7_record_26 : decode cX7_record 26 = .ok (.invokevirtual 191, 3) := by decide +kernel
theorem dX7_record_29 : decode cX7_record 29 = .ok (.ifCond .ne 5, 3) := by decide +kernel
theorem dX7_record_32 : decode cX7_record 32 = .ok (.iconst (-1), 1) := by decide +kernel
theorem dX7_record_33 : decode cX7_record 33 = .ok (.ireturn, 1) := by decide +kernel
theorem dX7_record_34 : decode cX7_record 34 = .ok (.iload_n 3, 1) := by decide +kernel
theorem dX7_record_35 : decode cX7_record 35 = .ok (.tableswitch 76 0 3 #[29, 40, 51, 65], 29) := by decide +kernel
theorem dX7_record_64 : decode cX7_record 64 = .ok (.aload 4, 2) := by decide +kernel
theorem dX7_record_66 : decode cX7_record 66 = .ok (.getfield 134, 3) := by decide +kernel
theorem dX7_record_69 : decode cX7_record 69 = .ok (.getfield 184, 3) := by decide +kernel
theorem dX7_record_72 : decode cX7_record 72 = .ok (.iload_n 2, 1) := by decide +kernel
theorem dX7_record_73 : decode cX7_record 73 = .ok (.iaload, 1) := by decide +kernel
theorem dX7_record_74 : decode cX7_record 74 = .ok (.ireturn, 1) := by decide +kernel
theorem dX7_record_75 : decode cX7_record 75 = .ok (.aload 4, 2) := by decide +kernel
theorem dX7_record_77 : decode cX7_record 77 = .ok (.getfield 134, 3) := by decide +kernel
theorem dX7_record_80 : decode cX7_record 80 = .ok (.getfield 192, 3) := by decide +kernel
theorem dX7_record_83 : decode cX7_record 83 = .ok (.iload_n 2, 1) := by decide +kernel
theorem dX7_record_84 : decode cX7_record 84 = .ok (.iaload, 1) := by decide +kernel
theorem dX7_record_85 : decode cX7_record 85 = .ok (.ireturn, 1) := by decide +kernel
theorem dX7_record_86 : decode cX7_record 86 = .ok (.aload 4, 2) := by decide +kernel
theorem dX7_record_88 : decode cX7_record 88 = .ok (.getfield 134, 3) := by decide +kernel
theorem dX7_record_91 : decode cX7_record 91 = .ok (.iload_n 2, 1) := by decide +kernel
theorem dX7_record_92 : decode cX7_record 92 = .ok (.aload_n 0, 1) := by decide +kernel
theorem dX7_record_93 : decode cX7_record 93 = .ok (.getfield 62, 3) := by decide +kernel
theorem dX7_record_96 : decode cX7_record 96 = .ok (.invokevirtual 194, 3) := by decide +kernel
theorem dX7_record_99 : decode cX7_record 99 = .ok (.ireturn, 1) := by decide +kernel
theorem dX7_record_100 : decode cX7_record 100 = .ok (.aload 4, 2) := by decide +kernel
theorem dX7_record_102 : decode cX7_record 102 = .ok (.getfield 134, 3) := by decide +kernel
theorem dX7_record_105 : decode cX7_record 105 = .ok (.getfield 198, 3) := by decide +kernel
theorem dX7_record_108 : decode cX7_record 108 = .ok (.iload_n 2, 1) := by decide +kernel
theorem dX7_record_109 : decode cX7_record 109 = .ok (.iaload, 1) := by decide +kernel
theorem dX7_record_110 : decode cX7_record 110 = .ok (.ireturn, 1) := by decide +kernel
theorem dX7_record_111 : decode cX7_record 111 = .ok (.iconst (-1), 1) := by decide +kernel
theorem dX7_record_112 : decode cX7_record 112 = .ok (.ireturn, 1) := by decide +kernel
theorem dX7_service_0 : decode cX7_service 0 = .ok (.aload_n 0, 1) := by decide +kernel
theorem dX7_service_1 : decode cX7_service 1 = .ok (.iload_n 1, 1) := by decide +kernel
theorem dX7_service_2 : decode cX7_service 2 = .ok (.invokevirtual 188, 3) := by decide +kernel
theorem dX7_service_5 : decode cX7_service 5 = .ok (.astore_n 3, 1) := by decide +kernel
theorem dX7_service_6 : decode cX7_service 6 = .ok (.aload_n 3, 1) := by decide +kernel
theorem dX7_service_7 : decode cX7_service 7 = .ok (.ifnonnull 5, 3) := by decide +kernel
theorem dX7_service_10 : decode cX7_service 10 = .ok (.iconst (-1), 1) := by decide +kernel
theorem dX7_service_11 : decode cX7_service 11 = .ok (.ireturn, 1) := by decide +kernel
theorem dX7_service_12 : decode cX7_service 12 = .ok (.iload_n 2, 1) := by decide +kernel
theorem dX7_service_13 : decode cX7_service 13 = .ok (.tableswitch 122 0 7 #[47, 52, 57, 74, 79, 87, 104, 117], 47) := by decide +kernel
theorem dX7_service_60 : decode cX7_service 60 = .ok (.aload_n 3, 1) := by decide +kernel
theorem dX7_service_61 : decode cX7_service 61 = .ok (.getfield 59, 3) := by decide +kernel
theorem dX7_service_64 : decode cX7_service 64 = .ok (.ireturn, 1) := by decide +kernel
theorem dX7_service_65 : decode cX7_service 65 = .ok (.aload_n 3, 1) := by decide +kernel
theorem dX7_service_66 : decode cX7_service 66 = .ok (.getfield 201, 3) := by decide +kernel
theorem dX7_service_69 : decode cX7_service 69 = .ok (.ireturn, 1) := by decide +kernel
theorem dX7_service_70 : decode cX7_service 70 = .ok (.aload_n 3, 1) := by decide +kernel
theorem dX7_service_71 : decode cX7_service 71 = .ok (.getfield 59, 3) := by decide +kernel
theorem dX7_service_74 : decode cX7_service 74 = .ok (.iconst 1, 1) := by decide +kernel
theorem dX7_service_75 : decode cX7_service 75 = .ok (.if_icmp .ne 10, 3) := by decide +kernel
theorem dX7_service_78 : decode cX7_service 78 = .ok (.aload_n 3, 1) := by decide +kernel
theorem dX7_service_79 : decode cX7_service 79 = .ok (.getfield 203, 3) := by decide +kernel
theorem dX7_service_82 : decode cX7_service 82 = .ok (.goto 4, 3) := by decide +kernel
theorem dX7_service_85 : decode cX7_service 85 = .ok (.iconst 0, 1) := by decide +kernel
theorem dX7_service_86 : decode cX7_service 86 = .ok (.ireturn, 1) := by decide +kernel
theorem dX7_service_87 : decode cX7_service 87 = .ok (.aload_n 3, 1) := by decide +kernel
theorem dX7_service_88 : decode cX7_service 88 = .ok (.getfield 56, 3) := by decide +kernel
theorem dX7_service_91 : decode cX7_service 91 = .ok (.ireturn, 1) := by decide +kernel
theorem dX7_service_92 : decode cX7_service 92 = .ok (.aload_n 3, 1) := by decide +kernel
theorem dX7_service_93 : decode cX7_service 93 = .ok (.getfield 106, 3) := by decide +kernel
theorem dX7_service_96 : decode cX7_service 96 = .ok (.getfield 32, 3) := by decide +kernel
theorem dX7_service_99 : decode cX7_service 99 = .ok (.ireturn, 1) := by decide +kernel
theorem dX7_service_100 : decode cX7_service 100 = .ok (.aload_n 3, 1) := by decide +kernel
theorem dX7_service_101 : decode cX7_service 101 = .ok (.getfield 59, 3) := by decide +kernel
theorem dX7_service_104 : decode cX7_service 104 = .ok (.iconst 2, 1) := by decide +kernel
theorem dX7_service_105 : decode cX7_service 105 = .ok (.if_icmp .ne 10, 3) := by decide +kernel
theorem dX7_service_108 : decode cX7_service 108 = .ok (.aload_n 3, 1) := by decide +kernel
theorem dX7_service_109 : decode cX7_service 109 = .ok (.getfield 65, 3) := by decide +kernel
theorem dX7_service_112 : decode cX7_service 112 = .ok (.goto 4, 3) := by decide +kernel
theorem dX7_service_115 : decode cX7_service 115 = .ok (.iconst (-1), 1) := by decide +kernel
theorem dX7_service_116 : decode cX7_service 116 = .ok (.ireturn, 1) := by decide +kernel
theorem dX7_service_117 : decode cX7_service 117 = .ok (.aload_n 3, 1) := by decide +kernel
theorem dX7_service_118 : decode cX7_service 118 = .ok (.getfield 109, 3) := by decide +kernel
theorem dX7_service_121 : decode cX7_service 121 = .ok (.ifCond .eq 7, 3) := by decide +kernel
theorem dX7_service_124 : decode cX7_service 124 = .ok (.iconst 1, 1) := by decide +kernel
theorem dX7_service_125 : decode cX7_service 125 = .ok (.goto 4, 3) := by decide +kernel
theorem dX7_service_128 : decode cX7_service 128 = .ok (.iconst 0, 1) := by decide +kernel
theorem dX7_service_129 : decode cX7_service 129 = .ok (.ireturn, 1) := by decide +kernel
theorem dX7_service_130 : decode cX7_service 130 = .ok (.aload_n 3, 1) := by decide +kernel
theorem dX7_service_131 : decode cX7_service 131 = .ok (.getfield 206, 3) := by decide +kernel
theorem dX7_service_134 : decode cX7_service 134 = .ok (.ireturn, 1) := by decide +kernel
theorem dX7_service_135 : decode cX7_service 135 = .ok (.iconst (-1), 1) := by decide +kernel
theorem dX7_service_136 : decode cX7_service 136 = .ok (.ireturn, 1) := by decide +kernel
theorem dX7_look_0 : decode cX7_look 0 = .ok (.aload_n 0, 1) := by decide +kernel
theorem dX7_look_1 : decode cX7_look 1 = .ok (.iload_n 1, 1) := by decide +kernel
theorem dX7_look_2 : decode cX7_look 2 = .ok (.invokevirtual 100, 3) := by decide +kernel
theorem dX7_look_5 : decode cX7_look 5 = .ok (.astore_n 3, 1) := by decide +kernel
theorem dX7_look_6 : decode cX7_look 6 = .ok (.aload_n 3, 1) := by decide +kernel
theorem dX7_look_7 : decode cX7_look 7 = .ok (.ifnonnull 5, 3) := by decide +kernel
theorem dX7_look_10 : decode cX7_look 10 = .ok (.iconst (-1), 1) := by decide +kernel
theorem dX7_look_11 : decode cX7_look 11 = .ok (.ireturn, 1) := by decide +kernel
theorem dX7_look_12 : decode cX7_look 12 = .ok (.iload_n 2, 1) := by decide +kernel
theorem dX7_look_13 : decode cX7_look 13 = .ok (.tableswitch 142 0 8 #[51, 56, 61, 80, 100, 105, 113, 126, 134], 51) := by decide +kernel
theorem dX7_look_64 : decode cX7_look 64 = .ok (.aload_n 3, 1) := by decide +kernel
theorem dX7_look_65 : decode cX7_look 65 = .ok (.getfield 95, 3) := by decide +kernel
theorem dX7_look_68 : decode cX7_look 68 = .ok (.ireturn, 1) := by decide +kernel
theorem dX7_look_69 : decode cX7_look 69 = .ok (.aload_n 3, 1) := by decide +kernel
theorem dX7_look_70 : decode cX7_look 70 = .ok (.getfield 88, 3) := by decide +kernel
theorem dX7_look_73 : decode cX7_look 73 = .ok (.ireturn, 1) := by decide +kernel
theorem dX7_look_74 : decode cX7_look 74 = .ok (.aload_n 3, 1) := by decide +kernel
theorem dX7_look_75 : decode cX7_look 75 = .ok (.getfield 155, 3) := by decide +kernel
theorem dX7_look_78 : decode cX7_look 78 = .ok (.ifnonnull 7, 3) := by decide +kernel
theorem dX7_look_81 : decode cX7_look 81 = .ok (.iconst (-1), 1) := by decide +kernel
theorem dX7_look_82 : decode cX7_look 82 = .ok (.goto 10, 3) := by decide +kernel
theorem dX7_look_85 : decode cX7_look 85 = .ok (.aload_n 3, 1) := by decide +kernel
theorem dX7_look_86 : decode cX7_look 86 = .ok (.getfield 155, 3) := by decide +kernel
theorem dX7_look_89 : decode cX7_look 89 = .ok (.getfield 209, 3) := by decide +kernel
theorem dX7_look_92 : decode cX7_look 92 = .ok (.ireturn, 1) := by decide +kernel
theorem dX7_look_93 : decode cX7_look 93 = .ok (.aload_n 0, 1) := by decide +kernel
theorem dX7_look_94 : decode cX7_look 94 = .ok (.aload_n 3, 1) := by decide +kernel
theorem dX7_look_95 : decode cX7_look 95 = .ok (.invokevirtual 210, 3) := by decide +kernel
theorem dX7_look_98 : decode cX7_look 98 = .ok (.ifCond .eq 13, 3) := by decide +kernel
theorem dX7_look_101 : decode cX7_look 101 = .ok (.aload_n 3, 1) := by decide +kernel
theorem dX7_look_102 : decode cX7_look 102 = .ok (.getfield 96, 3) := by decide +kernel
theorem dX7_look_105 : decode cX7_look 105 = .ok (.getfield 32, 3) := by decide +kernel
theorem dX7_look_108 : decode cX7_look 108 = .ok (.goto 4, 3) := by decide +kernel
theorem dX7_look_111 : decode cX7_look 111 = .ok (.iconst (-1), 1) := by decide +kernel
theorem dX7_look_112 : decode cX7_look 112 = .ok (.ireturn, 1) := by decide +kernel
theorem dX7_look_113 : decode cX7_look 113 = .ok (.aload_n 3, 1) := by decide +kernel
theorem dX7_look_114 : decode cX7_look 114 = .ok (.getfield 213, 3) := by decide +kernel
theorem dX7_look_117 : decode cX7_look 117 = .ok (.ireturn, 1) := by decide +kernel
theorem dX7_look_118 : decode cX7_look 118 = .ok (.aload_n 3, 1) := by decide +kernel
theorem dX7_look_119 : decode cX7_look 119 = .ok (.getfield 134, 3) := by decide +kernel
theorem dX7_look_122 : decode cX7_look 122 = .ok (.invokevirtual 216, 3) := by decide +kernel
theorem dX7_look_125 : decode cX7_look 125 = .ok (.ireturn, 1) := by decide +kernel
theorem dX7_look_126 : decode cX7_look 126 = .ok (.aload_n 3, 1) := by decide +kernel
theorem dX7_look_127 : decode cX7_look 127 = .ok (.getfield 91, 3) := by decide +kernel
theorem dX7_look_130 : decode cX7_look 130 = .ok (.ifCond .eq 7, 3) := by decide +kernel
theorem dX7_look_133 : decode cX7_look 133 = .ok (.iconst 1, 1) := by decide +kernel
theorem dX7_look_134 : decode cX7_look 134 = .ok (.goto 4, 3) := by decide +kernel
theorem dX7_look_137 : decode cX7_look 137 = .ok (.iconst 0, 1) := by decide +kernel
theorem dX7_look_138 : decode cX7_look 138 = .ok (.ireturn, 1) := by decide +kernel
theorem dX7_look_139 : decode cX7_look 139 = .ok (.aload_n 3, 1) := by decide +kernel
theorem dX7_look_140 : decode cX7_look 140 = .ok (.getfield 71, 3) := by decide +kernel
theorem dX7_look_143 : decode cX7_look 143 = .ok (.invokevirtual 220, 3) := by decide +kernel
theorem dX7_look_146 : decode cX7_look 146 = .ok (.ireturn, 1) := by decide +kernel
theorem dX7_look_147 : decode cX7_look 147 = .ok (.aload_n 3, 1) := by decide +kernel
theorem dX7_look_148 : decode cX7_look 148 = .ok (.getfield 143, 3) := by decide +kernel
theorem dX7_look_151 : decode cX7_look 151 = .ok (.invokevirtual 221, 3) := by decide +kernel
theorem dX7_look_154 : decode cX7_look 154 = .ok (.ireturn, 1) := by decide +kernel
theorem dX7_look_155 : decode cX7_look 155 = .ok (.iconst (-1), 1) := by decide +kernel
theorem dX7_look_156 : decode cX7_look 156 = .ok (.ireturn, 1) := by decide +kernel
theorem dX7_reach_0 : decode cX7_reach 0 = .ok (.aload_n 0, 1) := by decide +kernel
theorem dX7_reach_1 : decode cX7_reach 1 = .ok (.iload_n 1, 1) := by decide +kernel
theorem dX7_reach_2 : decode cX7_reach 2 = .ok (.invokevirtual 100, 3) := by decide +kernel
theorem dX7_reach_5 : decode cX7_reach 5 = .ok (.astore_n 3, 1) := by decide +kernel
theorem dX7_reach_6 : decode cX7_reach 6 = .ok (.aload_n 0, 1) := by decide +kernel
theorem dX7_reach_7 : decode cX7_reach 7 = .ok (.iload_n 2, 1) := by decide +kernel
theorem dX7_reach_8 : decode cX7_reach 8 = .ok (.invokevirtual 188, 3) := by decide +kernel
theorem dX7_reach_11 : decode cX7_reach 11 = .ok (.astore 4, 2) := by decide +kernel
theorem dX7_reach_13 : decode cX7_reach 13 = .ok (.aload_n 3, 1) := by decide +kernel
theorem dX7_reach_14 : decode cX7_reach 14 = .ok (.ifnull 19, 3) := by decide +kernel
theorem dX7_reach_17 : decode cX7_reach 17 = .ok (.aload 4, 2) := by decide +kernel
theorem dX7_reach_19 : decode cX7_reach 19 = .ok (.ifnull 14, 3) := by decide +kernel
theorem dX7_reach_22 : decode cX7_reach 22 = .ok (.aload_n 3, 1) := by decide +kernel
theorem dX7_reach_23 : decode cX7_reach 23 = .ok (.getfield 134, 3) := by decide +kernel
theorem dX7_reach_26 : decode cX7_reach 26 = .ok (.iload_n 2, 1) := by decide +kernel
theorem dX7_reach_27 : decode cX7_reach 27 = .ok (.invokevirtual 191, 3) := by decide +kernel
theorem dX7_reach_30 : decode cX7_reach 30 = .ok (.ifCond .ne 5, 3) := by decide +kernel
theorem dX7_reach_33 : decode cX7_reach 33 = .ok (.iconst (-1), 1) := by decide +kernel
theorem dX7_reach_34 : decode cX7_reach 34 = .ok (.ireturn, 1) := by decide +kernel
theorem dX7_reach_35 : decode cX7_reach 35 = .ok (.aload_n 3, 1) := by decide +kernel
theorem dX7_reach_36 : decode cX7_reach 36 = .ok (.getfield 95, 3) := by decide +kernel
theorem dX7_reach_39 : decode cX7_reach 39 = .ok (.iconst 2, 1) := by decide +kernel
theorem dX7_reach_40 : decode cX7_reach 40 = .ok (.if_icmp .eq 13, 3) := by decide +kernel
theorem dX7_reach_43 : decode cX7_reach 43 = .ok (.aload_n 3, 1) := by decide +kernel
theorem dX7_reach_44 : decode cX7_reach 44 = .ok (.getfield 95, 3) := by decide +kernel
theorem dX7_reach_47 : decode cX7_reach 47 = .ok (.iconst 3, 1) := by decide +kernel
theorem dX7_reach_48 : decode cX7_reach 48 = .ok (.if_icmp .eq 5, 3) := by decide +kernel
theorem dX7_reach_51 : decode cX7_reach 51 = .ok (.iconst (-1), 1) := by decide +kernel
theorem dX7_reach_52 : decode cX7_reach 52 = .ok (.ireturn, 1) := by decide +kernel
theorem dX7_reach_53 : decode cX7_reach 53 = .ok (.aload 4, 2) := by decide +kernel
theorem dX7_reach_55 : decode cX7_reach 55 = .ok (.getfield 59, 3) := by decide +kernel
theorem dX7_reach_58 : decode cX7_reach 58 = .ok (.iconst 2, 1) := by decide +kernel
theorem dX7_reach_59 : decode cX7_reach 59 = .ok (.if_icmp .ne 20, 3) := by decide +kernel
theorem dX7_reach_62 : decode cX7_reach 62 = .ok (.aload 4, 2) := by decide +kernel
theorem dX7_reach_64 : decode cX7_reach 64 = .ok (.getfield 201, 3) := by decide +kernel
theorem dX7_reach_67 : decode cX7_reach 67 = .ok (.aload_n 3, 1) := by decide +kernel
theorem dX7_reach_68 : decode cX7_reach 68 = .ok (.getfield 134, 3) := by decide +kernel
theorem dX7_reach_71 : decode cX7_reach 71 = .ok (.getfield 184, 3) := by decide +kernel
theorem dX7_reach_74 : decode cX7_reach 74 = .ok (.iload_n 2, 1) := by decide +kernel
theorem dX7_reach_75 : decode cX7_reach 75 = .ok (.iaload, 1) := by decide +kernel
theorem dX7_reach_76 : decode cX7_reach 76 = .ok (.if_icmp .eq 5, 3) := by decide +kernel
theorem dX7_reach_79 : decode cX7_reach 79 = .ok (.iconst 0, 1) := by decide +kernel
theorem dX7_reach_80 : decode cX7_reach 80 = .ok (.ireturn, 1) := by decide +kernel
theorem dX7_reach_81 : decode cX7_reach 81 = .ok (.aload 4, 2) := by decide +kernel
theorem dX7_reach_83 : decode cX7_reach 83 = .ok (.getfield 106, 3) := by decide +kernel
theorem dX7_reach_86 : decode cX7_reach 86 = .ok (.getfield 95, 3) := by decide +kernel
theorem dX7_reach_89 : decode cX7_reach 89 = .ok (.iconst 2, 1) := by decide +kernel
theorem dX7_reach_90 : decode cX7_reach 90 = .ok (.if_icmp .ne 5, 3) := by decide +kernel
theorem dX7_reach_93 : decode cX7_reach 93 = .ok (.iconst 1, 1) := by decide +kernel
theorem dX7_reach_94 : decode cX7_reach 94 = .ok (.ireturn, 1) := by decide +kernel
theorem dX7_reach_95 : decode cX7_reach 95 = .ok (.aload_n 0, 1) := by decide +kernel
theorem dX7_reach_96 : decode cX7_reach 96 = .ok (.aload 4, 2) := by decide +kernel
theorem dX7_reach_98 : decode cX7_reach 98 = .ok (.getfield 106, 3) := by decide +kernel
theorem dX7_reach_101 : decode cX7_reach 101 = .ok (.invokevirtual 210, 3) := by decide +kernel
theorem dX7_reach_104 : decode cX7_reach 104 = .ok (.ifCond .ne 5, 3) := by decide +kernel
theorem dX7_reach_107 : decode cX7_reach 107 = .ok (.iconst 0, 1) := by decide +kernel
theorem dX7_reach_108 : decode cX7_reach 108 = .ok (.ireturn, 1) := by decide +kernel
theorem dX7_reach_109 : decode cX7_reach 109 = .ok (.aload_n 0, 1) := by decide +kernel
theorem dX7_reach_110 : decode cX7_reach 110 = .ok (.aload 4, 2) := by decide +kernel
theorem dX7_reach_112 : decode cX7_reach 112 = .ok (.getfield 106, 3) := by decide +kernel
theorem dX7_reach_115 : decode cX7_reach 115 = .ok (.invokevirtual 118, 3) := by decide +kernel
theorem dX7_reach_118 : decode cX7_reach 118 = .ok (.iconst 2, 1) := by decide +kernel
theorem dX7_reach_119 : decode cX7_reach 119 = .ok (.ireturn, 1) := by decide +kernel
theorem dX7_twice_0 : decode cX7_twice 0 = .ok (.iload_n 1, 1) := by decide +kernel
theorem dX7_twice_1 : decode cX7_twice 1 = .ok (.invokestatic 21, 3) := by decide +kernel
theorem dX7_twice_4 : decode cX7_twice 4 = .ok (.ifCond .ne 5, 3) := by decide +kernel
theorem dX7_twice_7 : decode cX7_twice 7 = .ok (.iconst (-1), 1) := by decide +kernel
theorem dX7_twice_8 : decode cX7_twice 8 = .ok (.ireturn, 1) := by decide +kernel
theorem dX7_twice_9 : decode cX7_twice 9 = .ok (.iconst 0, 1) := by decide +kernel
theorem dX7_twice_10 : decode cX7_twice 10 = .ok (.istore_n 2, 1) := by decide +kernel
theorem dX7_twice_11 : decode cX7_twice 11 = .ok (.iconst 0, 1) := by decide +kernel
theorem dX7_twice_12 : decode cX7_twice 12 = .ok (.istore_n 3, 1) := by decide +kernel
theorem dX7_twice_13 : decode cX7_twice 13 = .ok (.iload_n 3, 1) := by decide +kernel
theorem dX7_twice_14 : decode cX7_twice 14 = .ok (.aload_n 0, 1) := by decide +kernel
theorem dX7_twice_15 : decode cX7_twice 15 = .ok (.getfield 103, 3) := by decide +kernel
theorem dX7_twice_18 : decode cX7_twice 18 = .ok (.if_icmp .ge 83, 3) := by decide +kernel
theorem dX7_twice_21 : decode cX7_twice 21 = .ok (.aload_n 0, 1) := by decide +kernel
theorem dX7_twice_22 : decode cX7_twice 22 = .ok (.aload_n 0, 1) := by decide +kernel
theorem dX7_twice_23 : decode cX7_twice 23 = .ok (.getfield 17, 3) := by decide +kernel
theorem dX7_twice_26 : decode cX7_twice 26 = .ok (.iload_n 3, 1) := by decide +kernel
theorem dX7_twice_27 : decode cX7_twice 27 = .ok (.aaload, 1) := by decide +kernel
theorem dX7_twice_28 : decode cX7_twice 28 = .ok (.iload_n 1, 1) := by decide +kernel
theorem dX7_twice_29 : decode cX7_twice 29 = .ok (.invokevirtual 222, 3) := by decide +kernel
theorem dX7_twice_32 : decode cX7_twice 32 = .ok (.ifCond .eq 63, 3) := by decide +kernel
theorem dX7_twice_35 : decode cX7_twice 35 = .ok (.iload_n 3, 1) := by decide +kernel
theorem dX7_twice_36 : decode cX7_twice 36 = .ok (.iconst 1, 1) := by decide +kernel
theorem dX7_twice_37 : decode cX7_twice 37 = .ok (.iadd, 1) := by decide +kernel
theorem dX7_twice_38 : decode cX7_twice 38 = .ok (.istore 4, 2) := by decide +kernel
theorem dX7_twice_40 : decode cX7_twice 40 = .ok (.iload 4, 2) := by decide +kernel
theorem dX7_twice_42 : decode cX7_twice 42 = .ok (.aload_n 0, 1) := by decide +kernel
theorem dX7_twice_43 : decode cX7_twice 43 = .ok (.getfield 103, 3) := by decide +kernel
theorem dX7_twice_46 : decode cX7_twice 46 = .ok (.if_icmp .ge 49, 3) := by decide +kernel
theorem dX7_twice_49 : decode cX7_twice 49 = .ok (.aload_n 0, 1) := by decide +kernel
theorem dX7_twice_50 : decode cX7_twice 50 = .ok (.getfield 17, 3) := by decide +kernel
theorem dX7_twice_53 : decode cX7_twice 53 = .ok (.iload_n 3, 1) := by decide +kernel
theorem dX7_twice_54 : decode cX7_twice 54 = .ok (.aaload, 1) := by decide +kernel
theorem dX7_twice_55 : decode cX7_twice 55 = .ok (.getfield 201, 3) := by decide +kernel
theorem dX7_twice_58 : decode cX7_twice 58 = .ok (.aload_n 0, 1) := by decide +kernel
theorem dX7_twice_59 : decode cX7_twice 59 = .ok (.getfield 17, 3) := by decide +kernel
theorem dX7_twice_62 : decode cX7_twice 62 = .ok (.iload 4, 2) := by decide +kernel
theorem dX7_twice_64 : decode cX7_twice 64 = .ok (.aaload, 1) := by decide +kernel
theorem dX7_twice_65 : decode cX7_twice 65 = .ok (.getfield 201, 3) := by decide +kernel
theorem dX7_twice_68 : decode cX7_twice 68 = .ok (.if_icmp .ne 21, 3) := by decide +kernel
theorem dX7_twice_71 : decode cX7_twice 71 = .ok (.aload_n 0, 1) := by decide +kernel
theorem dX7_twice_72 : decode cX7_twice 72 = .ok (.aload_n 0, 1) := by decide +kernel
theorem dX7_twice_73 : decode cX7_twice 73 = .ok (.getfield 17, 3) := by decide +kernel
theorem dX7_twice_76 : decode cX7_twice 76 = .ok (.iload 4, 2) := by decide +kernel
theorem dX7_twice_78 : decode cX7_twice 78 = .ok (.aaload, 1) := by decide +kernel
theorem dX7_twice_79 : decode cX7_twice 79 = .ok (.iload_n 1, 1) := by decide +kernel
theorem dX7_twice_80 : decode cX7_twice 80 = .ok (.invokevirtual 222, 3) := by decide +kernel
theorem dX7_twice_83 : decode cX7_twice 83 = .ok (.ifCond .eq 6, 3) := by decide +kernel
theorem dX7_twice_86 : decode cX7_twice 86 = .ok (.iinc 2 1, 3) := by decide +kernel
theorem dX7_twice_89 : decode cX7_twice 89 = .ok (.iinc 4 1, 3) := by decide +kernel
theorem dX7_twice_92 : decode cX7_twice 92 = .ok (.goto (-52), 3) := by decide +kernel
theorem dX7_twice_95 : decode cX7_twice 95 = .ok (.iinc 3 1, 3) := by decide +kernel
theorem dX7_twice_98 : decode cX7_twice 98 = .ok (.goto (-85), 3) := by decide +kernel
theorem dX7_twice_101 : decode cX7_twice 101 = .ok (.iload_n 2, 1) := by decide +kernel
theorem dX7_twice_102 : decode cX7_twice 102 = .ok (.ireturn, 1) := by decide +kernel
theorem dX7_count_0 : decode cX7_count 0 = .ok (.iload_n 1, 1) := by decide +kernel
theorem dX7_count_1 : decode cX7_count 1 = .ok (.tableswitch 114 0 10 #[59, 64, 69, 74, 79, 84, 89, 94, 99, 104, 109], 59) := by decide +kernel
theorem dX7_count_60 : decode cX7_count 60 = .ok (.aload_n 0, 1) := by decide +kernel
theorem dX7_count_61 : decode cX7_count 61 = .ok (.getfield 62, 3) := by decide +kernel
theorem dX7_count_64 : decode cX7_count 64 = .ok (.ireturn, 1) := by decide +kernel
theorem dX7_count_65 : decode cX7_count 65 = .ok (.aload_n 0, 1) := by decide +kernel
theorem dX7_count_66 : decode cX7_count 66 = .ok (.getfield 25, 3) := by decide +kernel
theorem dX7_count_69 : decode cX7_count 69 = .ok (.ireturn, 1) := by decide +kernel
theorem dX7_count_70 : decode cX7_count 70 = .ok (.aload_n 0, 1) := by decide +kernel
theorem dX7_count_71 : decode cX7_count 71 = .ok (.getfield 103, 3) := by decide +kernel
theorem dX7_count_74 : decode cX7_count 74 = .ok (.ireturn, 1) := by decide +kernel
theorem dX7_count_75 : decode cX7_count 75 = .ok (.aload_n 0, 1) := by decide +kernel
theorem dX7_count_76 : decode cX7_count 76 = .ok (.getfield 226, 3) := by decide +kernel
theorem dX7_count_79 : decode cX7_count 79 = .ok (.ireturn, 1) := by decide +kernel
theorem dX7_count_80 : decode cX7_count 80 = .ok (.aload_n 0, 1) := by decide +kernel
theorem dX7_count_81 : decode cX7_count 81 = .ok (.getfield 229, 3) := by decide +kernel
theorem dX7_count_84 : decode cX7_count 84 = .ok (.ireturn, 1) := by decide +kernel
theorem dX7_count_85 : decode cX7_count 85 = .ok (.aload_n 0, 1) := by decide +kernel
theorem dX7_count_86 : decode cX7_count 86 = .ok (.getfield 232, 3) := by decide +kernel
theorem dX7_count_89 : decode cX7_count 89 = .ok (.ireturn, 1) := by decide +kernel
theorem dX7_count_90 : decode cX7_count 90 = .ok (.aload_n 0, 1) := by decide +kernel
theorem dX7_count_91 : decode cX7_count 91 = .ok (.getfield 235, 3) := by decide +kernel
theorem dX7_count_94 : decode cX7_count 94 = .ok (.ireturn, 1) := by decide +kernel
theorem dX7_count_95 : decode cX7_count 95 = .ok (.aload_n 0, 1) := by decide +kernel
theorem dX7_count_96 : decode cX7_count 96 = .ok (.getfield 238, 3) := by decide +kernel
theorem dX7_count_99 : decode cX7_count 99 = .ok (.ireturn, 1) := by decide +kernel
theorem dX7_count_100 : decode cX7_count 100 = .ok (.aload_n 0, 1) := by decide +kernel
theorem dX7_count_101 : decode cX7_count 101 = .ok (.getfield 241, 3) := by decide +kernel
theorem dX7_count_104 : decode cX7_count 104 = .ok (.ireturn, 1) := by decide +kernel
theorem dX7_count_105 : decode cX7_count 105 = .ok (.aload_n 0, 1) := by decide +kernel
theorem dX7_count_106 : decode cX7_count 106 = .ok (.getfield 244, 3) := by decide +kernel
theorem dX7_count_109 : decode cX7_count 109 = .ok (.ireturn, 1) := by decide +kernel
theorem dX7_count_110 : decode cX7_count 110 = .ok (.aload_n 0, 1) := by decide +kernel
theorem dX7_count_111 : decode cX7_count 111 = .ok (.getfield 247, 3) := by decide +kernel
theorem dX7_count_114 : decode cX7_count 114 = .ok (.ireturn, 1) := by decide +kernel
theorem dX7_count_115 : decode cX7_count 115 = .ok (.iconst (-1), 1) := by decide +kernel
theorem dX7_count_116 : decode cX7_count 116 = .ok (.ireturn, 1) := by decide +kernel
theorem dX7_isNet_0 : decode cX7_isNet 0 = .ok (.iload_n 0, 1) := by decide +kernel
theorem dX7_isNet_1 : decode cX7_isNet 1 = .ok (.ifCond .lt 12, 3) := by decide +kernel
theorem dX7_isNet_4 : decode cX7_isNet 4 = .ok (.iload_n 0, 1) := by decide +kernel
theorem dX7_isNet_5 : decode cX7_isNet 5 = .ok (.iconst 4, 1) := by decide +kernel
theorem dX7_isNet_6 : decode cX7_isNet 6 = .ok (.if_icmp .ge 7, 3) := by decide +kernel
theorem dX7_isNet_9 : decode cX7_isNet 9 = .ok (.iconst 1, 1) := by decide +kernel
theorem dX7_isNet_10 : decode cX7_isNet 10 = .ok (.goto 4, 3) := by decide +kernel
theorem dX7_isNet_13 : decode cX7_isNet 13 = .ok (.iconst 0, 1) := by decide +kernel
theorem dX7_isNet_14 : decode cX7_isNet 14 = .ok (.ireturn, 1) := by decide +kernel
theorem dX7_isKind_0 : decode cX7_isKind 0 = .ok (.iload_n 0, 1) := by decide +kernel
theorem dX7_isKind_1 : decode cX7_isKind 1 = .ok (.ifCond .lt 13, 3) := by decide +kernel
theorem dX7_isKind_4 : decode cX7_isKind 4 = .ok (.iload_n 0, 1) := by decide +kernel
theorem dX7_isKind_5 : decode cX7_isKind 5 = .ok (.bipush 16, 2) := by decide +kernel
theorem dX7_isKind_7 : decode cX7_isKind 7 = .ok (.if_icmp .ge 7, 3) := by decide +kernel
theorem dX7_isKind_10 : decode cX7_isKind 10 = .ok (.iconst 1, 1) := by decide +kernel
theorem dX7_isKind_11 : decode cX7_isKind 11 = .ok (.goto 4, 3) := by decide +kernel
theorem dX7_isKind_14 : decode cX7_isKind 14 = .ok (.iconst 0, 1) := by decide +kernel
theorem dX7_isKind_15 : decode cX7_isKind 15 = .ok (.ireturn, 1) := by decide +kernel
theorem dX7_areMarks_0 : decode cX7_areMarks 0 = .ok (.iload_n 0, 1) := by decide +kernel
theorem dX7_areMarks_1 : decode cX7_areMarks 1 = .ok (.ifCond .lt 14, 3) := by decide +kernel
theorem dX7_areMarks_4 : decode cX7_areMarks 4 = .ok (.iload_n 0, 1) := by decide +kernel
theorem dX7_areMarks_5 : decode cX7_areMarks 5 = .ok (.sipush 255, 3) := by decide +kernel
theorem dX7_areMarks_8 : decode cX7_areMarks 8 = .ok (.if_icmp .gt 7, 3) := by decide +kernel
theorem dX7_areMarks_11 : decode cX7_areMarks 11 = .ok (.iconst 1, 1) := by decide +kernel
theorem dX7_areMarks_12 : decode cX7_areMarks 12 = .ok (.goto 4, 3) := by decide +kernel
theorem dX7_areMarks_15 : decode cX7_areMarks 15 = .ok (.iconst 0, 1) := by decide +kernel
theorem dX7_areMarks_16 : decode cX7_areMarks 16 = .ok (.ireturn, 1) := by decide +kernel
theorem dX7_hostAt_0 : decode cX7_hostAt 0 = .ok (.iload_n 1, 1) := by decide +kernel
theorem dX7_hostAt_1 : decode cX7_hostAt 1 = .ok (.ifCond .lt 20, 3) := by decide +kernel
theorem dX7_hostAt_4 : decode cX7_hostAt 4 = .ok (.iload_n 1, 1) := by decide +kernel
theorem dX7_hostAt_5 : decode cX7_hostAt 5 = .ok (.aload_n 0, 1) := by decide +kernel
theorem dX7_hostAt_6 : decode cX7_hostAt 6 = .ok (.getfield 25, 3) := by decide +kernel
theorem dX7_hostAt_9 : decode cX7_hostAt 9 = .ok (.if_icmp .ge 12, 3) := by decide +kernel
theorem dX7_hostAt_12 : decode cX7_hostAt 12 = .ok (.aload_n 0, 1) := by decide +kernel
theorem dX7_hostAt_13 : decode cX7_hostAt 13 = .ok (.getfield 11, 3) := by decide +kernel
theorem dX7_hostAt_16 : decode cX7_hostAt 16 = .ok (.iload_n 1, 1) := by decide +kernel
theorem dX7_hostAt_17 : decode cX7_hostAt 17 = .ok (.aaload, 1) := by decide +kernel
theorem dX7_hostAt_18 : decode cX7_hostAt 18 = .ok (.goto 4, 3) := by decide +kernel
theorem dX7_hostAt_21 : decode cX7_hostAt 21 = .ok (.aconst_null, 1) := by decide +kernel
theorem dX7_hostAt_22 : decode cX7_hostAt 22 = .ok (.areturn, 1) := by decide +kernel
theorem dX7_stayingHost_0 : decode cX7_stayingHost 0 = .ok (.aload_n 0, 1) := by decide +kernel
theorem dX7_stayingHost_1 : decode cX7_stayingHost 1 = .ok (.iload_n 1, 1) := by decide +kernel
theorem dX7_stayingHost_2 : decode cX7_stayingHost 2 = .ok (.invokevirtual 100, 3) := by decide +kernel
theorem dX7_stayingHost_5 : decode cX7_stayingHost 5 = .ok (.astore_n 2, 1) := by decide +kernel
theorem dX7_stayingHost_6 : decode cX7_stayingHost 6 = .ok (.aload_n 2, 1) := by decide +kernel
theorem dX7_stayingHost_7 : decode cX7_stayingHost 7 = .ok (.ifnull 15, 3) := by decide +kernel
theorem dX7_stayingHost_10 : decode cX7_stayingHost 10 = .ok (.aload_n 2, 1) := by decide +kernel
theorem dX7_stayingHost_11 : decode cX7_stayingHost 11 = .ok (.getfield 95, 3) := by decide +kernel
theorem dX7_stayingHost_14 : decode cX7_stayingHost 14 = .ok (.iconst 2, 1) := by decide +kernel
theorem dX7_stayingHost_15 : decode cX7_stayingHost 15 = .ok (.if_icmp .ne 7, 3) := by decide +kernel
theorem dX7_stayingHost_18 : decode cX7_stayingHost 18 = .ok (.aload_n 2, 1) := by decide +kernel
theorem dX7_stayingHost_19 : decode cX7_stayingHost 19 = .ok (.goto 4, 3) := by decide +kernel
theorem dX7_stayingHost_22 : decode cX7_stayingHost 22 = .ok (.aconst_null, 1) := by decide +kernel
theorem dX7_stayingHost_23 : decode cX7_stayingHost 23 = .ok (.areturn, 1) := by decide +kernel
theorem dX7_stayingHelper_0 : decode cX7_stayingHelper 0 = .ok (.aload_n 0, 1) := by decide +kernel
theorem dX7_stayingHelper_1 : decode cX7_stayingHelper 1 = .ok (.iload_n 1, 1) := by decide +kernel
theorem dX7_stayingHelper_2 : decode cX7_stayingHelper 2 = .ok (.invokevirtual 115, 3) := by decide +kernel
theorem dX7_stayingHelper_5 : decode cX7_stayingHelper 5 = .ok (.astore_n 2, 1) := by decide +kernel
theorem dX7_stayingHelper_6 : decode cX7_stayingHelper 6 = .ok (.aload_n 2, 1) := by decide +kernel
theorem dX7_stayingHelper_7 : decode cX7_stayingHelper 7 = .ok (.ifnull 14, 3) := by decide +kernel
theorem dX7_stayingHelper_10 : decode cX7_stayingHelper 10 = .ok (.aload_n 2, 1) := by decide +kernel
theorem dX7_stayingHelper_11 : decode cX7_stayingHelper 11 = .ok (.getfield 155, 3) := by decide +kernel
theorem dX7_stayingHelper_14 : decode cX7_stayingHelper 14 = .ok (.ifnonnull 7, 3) := by decide +kernel
theorem dX7_stayingHelper_17 : decode cX7_stayingHelper 17 = .ok (.aload_n 2, 1) := by decide +kernel
theorem dX7_stayingHelper_18 : decode cX7_stayingHelper 18 = .ok (.goto 4, 3) := by decide +kernel
theorem dX7_stayingHelper_21 : decode cX7_stayingHelper 21 = .ok (.aconst_null, 1) := by decide +kernel
theorem dX7_stayingHelper_22 : decode cX7_stayingHelper 22 = .ok (.areturn, 1) := by decide +kernel
theorem dX7_serviceAt_0 : decode cX7_serviceAt 0 = .ok (.iload_n 1, 1) := by decide +kernel
theorem dX7_serviceAt_1 : decode cX7_serviceAt 1 = .ok (.ifCond .lt 20, 3) := by decide +kernel
theorem dX7_serviceAt_4 : decode cX7_serviceAt 4 = .ok (.iload_n 1, 1) := by decide +kernel
theorem dX7_serviceAt_5 : decode cX7_serviceAt 5 = .ok (.aload_n 0, 1) := by decide +kernel
theorem dX7_serviceAt_6 : decode cX7_serviceAt 6 = .ok (.getfield 103, 3) := by decide +kernel
theorem dX7_serviceAt_9 : decode cX7_serviceAt 9 = .ok (.if_icmp .ge 12, 3) := by decide +kernel
theorem dX7_serviceAt_12 : decode cX7_serviceAt 12 = .ok (.aload_n 0, 1) := by decide +kernel
theorem dX7_serviceAt_13 : decode cX7_serviceAt 13 = .ok (.getfield 17, 3) := by decide +kernel
theorem dX7_serviceAt_16 : decode cX7_serviceAt 16 = .ok (.iload_n 1, 1) := by decide +kernel
theorem dX7_serviceAt_17 : decode cX7_serviceAt 17 = .ok (.aaload, 1) := by decide +kernel
theorem dX7_serviceAt_18 : decode cX7_serviceAt 18 = .ok (.goto 4, 3) := by decide +kernel
theorem dX7_serviceAt_21 : decode cX7_serviceAt 21 = .ok (.aconst_null, 1) := by decide +kernel
theorem dX7_serviceAt_22 : decode cX7_serviceAt 22 = .ok (.areturn, 1) := by decide +kernel
theorem dX7_serviceInCare_0 : decode cX7_serviceInCare 0 = .ok (.aload_n 0, 1) := by decide +kernel
theorem dX7_serviceInCare_1 : decode cX7_serviceInCare 1 = .ok (.iload_n 1, 1) := by decide +kernel
theorem dX7_serviceInCare_2 : decode cX7_serviceInCare 2 = .ok (.invokevirtual 188, 3) := by decide +kernel
theorem dX7_serviceInCare_5 : decode cX7_serviceInCare 5 = .ok (.astore_n 2, 1) := by decide +kernel
theorem dX7_serviceInCare_6 : decode cX7_serviceInCare 6 = .ok (.aload_n 2, 1) := by decide +kernel
theorem dX7_serviceInCare_7 : decode cX7_serviceInCare 7 = .ok (.ifnull 21, 3) := by decide +kernel
theorem dX7_serviceInCare_10 : decode cX7_serviceInCare 10 = .ok (.aload_n 2, 1) := by decide +kernel
theorem dX7_serviceInCare_11 : decode cX7_serviceInCare 11 = .ok (.getfield 59, 3) := by decide +kernel
theorem dX7_serviceInCare_14 : decode cX7_serviceInCare 14 = .ok (.ifCond .eq 14, 3) := by decide +kernel
theorem dX7_serviceInCare_17 : decode cX7_serviceInCare 17 = .ok (.aload_n 2, 1) := by decide +kernel
theorem dX7_serviceInCare_18 : decode cX7_serviceInCare 18 = .ok (.getfield 106, 3) := by decide +kernel
theorem dX7_serviceInCare_21 : decode cX7_serviceInCare 21 = .ok (.getfield 95, 3) := by decide +kernel
theorem dX7_serviceInCare_24 : decode cX7_serviceInCare 24 = .ok (.iconst 2, 1) := by decide +kernel
theorem dX7_serviceInCare_25 : decode cX7_serviceInCare 25 = .ok (.if_icmp .eq 5, 3) := by decide +kernel
theorem dX7_serviceInCare_28 : decode cX7_serviceInCare 28 = .ok (.aconst_null, 1) := by decide +kernel
theorem dX7_serviceInCare_29 : decode cX7_serviceInCare 29 = .ok (.areturn, 1) := by decide +kernel
theorem dX7_serviceInCare_30 : decode cX7_serviceInCare 30 = .ok (.aload_n 2, 1) := by decide +kernel
theorem dX7_serviceInCare_31 : decode cX7_serviceInCare 31 = .ok (.areturn, 1) := by decide +kernel
theorem dX7_addService_0 : decode cX7_addService 0 = .ok (.iload 5, 2) := by decide +kernel
theorem dX7_addService_2 : decode cX7_addService 2 = .ok (.iconst 4, 1) := by decide +kernel
theorem dX7_addService_3 : decode cX7_addService 3 = .ok (.if_icmp .lt 15, 3) := by decide +kernel
theorem dX7_addService_6 : decode cX7_addService 6 = .ok (.iload 5, 2) := by decide +kernel
theorem dX7_addService_8 : decode cX7_addService 8 = .ok (.sipush 200, 3) := by decide +kernel
theorem dX7_addService_11 : decode cX7_addService 11 = .ok (.if_icmp .gt 7, 3) := by decide +kernel
theorem dX7_addService_14 : decode cX7_addService 14 = .ok (.iconst 1, 1) := by decide +kernel
theorem dX7_addService_15 : decode cX7_addService 15 = .ok (.goto 4, 3) := by decide +kernel
theorem dX7_addService_18 : decode cX7_addService 18 = .ok (.iconst 0, 1) := by decide +kernel
theorem dX7_addService_19 : decode cX7_addService 19 = .ok (.istore 7, 2) := by decide +kernel
theorem dX7_addService_21 : decode cX7_addService 21 = .ok (.iload_n 2, 1) := by decide +kernel
theorem dX7_addService_22 : decode cX7_addService 22 = .ok (.invokestatic 68, 3) := by decide +kernel
theorem dX7_addService_25 : decode cX7_addService 25 = .ok (.ifCond .eq 25, 3) := by decide +kernel
theorem dX7_addService_28 : decode cX7_addService 28 = .ok (.iload 4, 2) := by decide +kernel
theorem dX7_addService_30 : decode cX7_addService 30 = .ok (.invokestatic 53, 3) := by decide +kernel
theorem dX7_addService_33 : decode cX7_addService 33 = .ok (.ifCond .eq 17, 3) := by decide +kernel
theorem dX7_addService_36 : decode cX7_addService 36 = .ok (.iload 7, 2) := by decide +kernel
theorem dX7_addService_38 : decode cX7_addService 38 = .ok (.ifCond .eq 12, 3) := by decide +kernel
theorem dX7_addService_41 : decode cX7_addService 41 = .ok (.aload_n 0, 1) := by decide +kernel
theorem dX7_addService_42 : decode cX7_addService 42 = .ok (.getfield 103, 3) := by decide +kernel
theorem dX7_addService_45 : decode cX7_addService 45 = .ok (.bipush 32, 2) := by decide +kernel
theorem dX7_addService_47 : decode cX7_addService 47 = .ok (.if_icmp .lt 5, 3) := by decide +kernel
theorem dX7_addService_50 : decode cX7_addService 50 = .ok (.iconst (-1), 1) := by decide +kernel
theorem dX7_addService_51 : decode cX7_addService 51 = .ok (.ireturn, 1) := by decide +kernel
theorem dX7_addService_52 : decode cX7_addService 52 = .ok (.aload_n 0, 1) := by decide +kernel
theorem dX7_addService_53 : decode cX7_addService 53 = .ok (.aload_n 1, 1) := by decide +kernel
theorem dX7_addService_54 : decode cX7_addService 54 = .ok (.invokevirtual 250, 3) := by decide +kernel
theorem dX7_addService_57 : decode cX7_addService 57 = .ok (.iconst 4, 1) := by decide +kernel
theorem dX7_addService_58 : decode cX7_addService 58 = .ok (.if_icmp .ge 12, 3) := by decide +kernel
theorem dX7_addService_61 : decode cX7_addService 61 = .ok (.aload_n 0, 1) := by decide +kernel
theorem dX7_addService_62 : decode cX7_addService 62 = .ok (.aload_n 1, 1) := by decide +kernel
theorem dX7_addService_63 : decode cX7_addService 63 = .ok (.iload_n 3, 1) := by decide +kernel
theorem dX7_addService_64 : decode cX7_addService 64 = .ok (.invokevirtual 253, 3) := by decide +kernel
theorem dX7_addService_67 : decode cX7_addService 67 = .ok (.ifCond .eq 5, 3) := by decide +kernel
theorem dX7_addService_70 : decode cX7_addService 70 = .ok (.iconst (-1), 1) := by decide +kernel
theorem dX7_addService_71 : decode cX7_addService 71 = .ok (.ireturn, 1) := by decide +kernel
theorem dX7_addService_72 : decode cX7_addService 72 = .ok (.new 15, 3) := by decide +kernel
theorem dX7_addService_75 : decode cX7_addService 75 = .ok (.dup, 1) := by decide +kernel
theorem dX7_addService_76 : decode cX7_addService 76 = .ok (.aload_n 0, 1) := by decide +kernel
theorem dX7_addService_77 : decode cX7_addService 77 = .ok (.getfield 103, 3) := by decide +kernel
theorem dX7_addService_80 : decode cX7_addService 80 = .ok (.aload_n 1, 1) := by decide +kernel
theorem dX7_addService_81 : decode cX7_addService 81 = .ok (.iload_n 2, 1) := by decide +kernel
theorem dX7_addService_82 : decode cX7_addService 82 = .ok (.iload_n 3, 1) := by decide +kernel
theorem dX7_addService_83 : decode cX7_addService 83 = .ok (.iload 4, 2) := by decide +kernel
theorem dX7_addService_85 : decode cX7_addService 85 = .ok (.iload 5, 2) := by decide +kernel
theorem dX7_addService_87 : decode cX7_addService 87 = .ok (.iload 6, 2) := by decide +kernel
theorem dX7_addService_89 : decode cX7_addService 89 = .ok (.invokespecial 257, 3) := by decide +kernel
theorem dX7_addService_92 : decode cX7_addService 92 = .ok (.astore 8, 2) := by decide +kernel
theorem dX7_addService_94 : decode cX7_addService 94 = .ok (.iload 6, 2) := by decide +kernel
theorem dX7_addService_96 : decode cX7_addService 96 = .ok (.ifCond .eq 12, 3) := by decide +kernel
theorem dX7_addService_99 : decode cX7_addService 99 = .ok (.aload 8, 2) := by decide +kernel
theorem dX7_addService_101 : decode cX7_addService 101 = .ok (.aload_n 0, 1) := by decide +kernel
theorem dX7_addService_102 : decode cX7_addService 102 = .ok (.getfield 62, 3) := by decide +kernel
theorem dX7_addService_105 : decode cX7_addService 105 = .ok (.invokevirtual 260, 3) := by decide +kernel
theorem dX7_addService_108 : decode cX7_addService 108 = .ok (.aload_n 0, 1) := by decide +kernel
theorem dX7_addService_109 : decode cX7_addService 109 = .ok (.getfield 17, 3) := by decide +kernel
theorem dX7_addService_112 : decode cX7_addService 112 = .ok (.aload_n 0, 1) := by decide +kernel
theorem dX7_addService_113 : decode cX7_addService 113 = .ok (.getfield 103, 3) := by decide +kernel
theorem dX7_addService_116 : decode cX7_addService 116 = .ok (.aload 8, 2) := by decide +kernel
theorem dX7_addService_118 : decode cX7_addService 118 = .ok (.aastore, 1) := by decide +kernel
theorem dX7_addService_119 : decode cX7_addService 119 = .ok (.aload_n 0, 1) := by decide +kernel
theorem dX7_addService_120 : decode cX7_addService 120 = .ok (.dup, 1) := by decide +kernel
theorem dX7_addService_121 : decode cX7_addService 121 = .ok (.getfield 103, 3) := by decide +kernel
theorem dX7_addService_124 : decode cX7_addService 124 = .ok (.iconst 1, 1) := by decide +kernel
theorem dX7_addService_125 : decode cX7_addService 125 = .ok (.iadd, 1) := by decide +kernel
theorem dX7_addService_126 : decode cX7_addService 126 = .ok (.putfield 103, 3) := by decide +kernel
theorem dX7_addService_129 : decode cX7_addService 129 = .ok (.aload 8, 2) := by decide +kernel
theorem dX7_addService_131 : decode cX7_addService 131 = .ok (.getfield 264, 3) := by decide +kernel
theorem dX7_addService_134 : decode cX7_addService 134 = .ok (.ireturn, 1) := by decide +kernel
theorem dX7_liveServicesOf_0 : decode cX7_liveServicesOf 0 = .ok (.iconst 0, 1) := by decide +kernel
theorem dX7_liveServicesOf_1 : decode cX7_liveServicesOf 1 = .ok (.istore_n 2, 1) := by decide +kernel
theorem dX7_liveServicesOf_2 : decode cX7_liveServicesOf 2 = .ok (.iconst 0, 1) := by decide +kernel
theorem dX7_liveServicesOf_3 : decode cX7_liveServicesOf 3 = .ok (.istore_n 3, 1) := by decide +kernel
theorem dX7_liveServicesOf_4 : decode cX7_liveServicesOf 4 = .ok (.iload_n 3, 1) := by decide +kernel
theorem dX7_liveServicesOf_5 : decode cX7_liveServicesOf 5 = .ok (.aload_n 0, 1) := by decide +kernel
theorem dX7_liveServicesOf_6 : decode cX7_liveServicesOf 6 = .ok (.getfield 103, 3) := by decide +kernel
theorem dX7_liveServicesOf_9 : decode cX7_liveServicesOf 9 = .ok (.if_icmp .ge 37, 3) := by decide +kernel
theorem dX7_liveServicesOf_12 : decode cX7_liveServicesOf 12 = .ok (.aload_n 0, 1) := by decide +kernel
theorem dX7_liveServicesOf_13 : decode cX7_liveServicesOf 13 = .ok (.getfield 17, 3) := by decide +kernel
theorem dX7_liveServicesOf_16 : decode cX7_liveServicesOf 16 = .ok (.iload_n 3, 1) := by decide +kernel
theorem dX7_liveServicesOf_17 : decode cX7_liveServicesOf 17 = .ok (.aaload, 1) := by decide +kernel
theorem dX7_liveServicesOf_18 : decode cX7_liveServicesOf 18 = .ok (.getfield 106, 3) := by decide +kernel
theorem dX7_liveServicesOf_21 : decode cX7_liveServicesOf 21 = .ok (.aload_n 1, 1) := by decide +kernel
theorem dX7_liveServicesOf_22 : decode cX7_liveServicesOf 22 = .ok (.if_acmp .ne 18, 3) := by decide +kernel
theorem dX7_liveServicesOf_25 : decode cX7_liveServicesOf 25 = .ok (.aload_n 0, 1) := by decide +kernel
theorem dX7_liveServicesOf_26 : decode cX7_liveServicesOf 26 = .ok (.getfield 17, 3) := by decide +kernel
theorem dX7_liveServicesOf_29 : decode cX7_liveServicesOf 29 = .ok (.iload_n 3, 1) := by decide +kernel
theorem dX7_liveServicesOf_30 : decode cX7_liveServicesOf 30 = .ok (.aaload, 1) := by decide +kernel
theorem dX7_liveServicesOf_31 : decode cX7_liveServicesOf 31 = .ok (.getfield 59, 3) := by decide +kernel
theorem dX7_liveServicesOf_34 : decode cX7_liveServicesOf 34 = .ok (.ifCond .eq 6, 3) := by decide +kernel
theorem dX7_liveServicesOf_37 : decode cX7_liveServicesOf 37 = .ok (.iinc 2 1, 3) := by decide +kernel
theorem dX7_liveServicesOf_40 : decode cX7_liveServicesOf 40 = .ok (.iinc 3 1, 3) := by decide +kernel
theorem dX7_liveServicesOf_43 : decode cX7_liveServicesOf 43 = .ok (.goto (-39), 3) := by decide +kernel
theorem dX7_liveServicesOf_46 : decode cX7_liveServicesOf 46 = .ok (.iload_n 2, 1) := by decide +kernel
theorem dX7_liveServicesOf_47 : decode cX7_liveServicesOf 47 = .ok (.ireturn, 1) := by decide +kernel
theorem dX7_isNameTaken_0 : decode cX7_isNameTaken 0 = .ok (.iconst 0, 1) := by decide +kernel
theorem dX7_isNameTaken_1 : decode cX7_isNameTaken 1 = .ok (.istore_n 3, 1) := by decide +kernel
theorem dX7_isNameTaken_2 : decode cX7_isNameTaken 2 = .ok (.iload_n 3, 1) := by decide +kernel
theorem dX7_isNameTaken_3 : decode cX7_isNameTaken 3 = .ok (.aload_n 0, 1) := by decide +kernel
theorem dX7_isNameTaken_4 : decode cX7_isNameTaken 4 = .ok (.getfield 103, 3) := by decide +kernel
theorem dX7_isNameTaken_7 : decode cX7_isNameTaken 7 = .ok (.if_icmp .ge 45, 3) := by decide +kernel
theorem dX7_isNameTaken_10 : decode cX7_isNameTaken 10 = .ok (.aload_n 0, 1) := by decide +kernel
theorem dX7_isNameTaken_11 : decode cX7_isNameTaken 11 = .ok (.getfield 17, 3) := by decide +kernel
theorem dX7_isNameTaken_14 : decode cX7_isNameTaken 14 = .ok (.iload_n 3, 1) := by decide +kernel
theorem dX7_isNameTaken_15 : decode cX7_isNameTaken 15 = .ok (.aaload, 1) := by decide +kernel
theorem dX7_isNameTaken_16 : decode cX7_isNameTaken 16 = .ok (.astore 4, 2) := by decide +kernel
theorem dX7_isNameTaken_18 : decode cX7_isNameTaken 18 = .ok (.aload 4, 2) := by decide +kernel
theorem dX7_isNameTaken_20 : decode cX7_isNameTaken 20 = .ok (.getfield 106, 3) := by decide +kernel
theorem dX7_isNameTaken_23 : decode cX7_isNameTaken 23 = .ok (.aload_n 1, 1) := by decide +kernel
theorem dX7_isNameTaken_24 : decode cX7_isNameTaken 24 = .ok (.if_acmp .ne 22, 3) := by decide +kernel
theorem dX7_isNameTaken_27 : decode cX7_isNameTaken 27 = .ok (.aload 4, 2) := by decide +kernel
theorem dX7_isNameTaken_29 : decode cX7_isNameTaken 29 = .ok (.getfield 201, 3) := by decide +kernel
theorem dX7_isNameTaken_32 : decode cX7_isNameTaken 32 = .ok (.iload_n 2, 1) := by decide +kernel
theorem dX7_isNameTaken_33 : decode cX7_isNameTaken 33 = .ok (.if_icmp .ne 13, 3) := by decide +kernel
theorem dX7_isNameTaken_36 : decode cX7_isNameTaken 36 = .ok (.aload 4, 2) := by decide +kernel
theorem dX7_isNameTaken_38 : decode cX7_isNameTaken 38 = .ok (.getfield 59, 3) := by decide +kernel
theorem dX7_isNameTaken_41 : decode cX7_isNameTaken 41 = .ok (.ifCond .eq 5, 3) := by decide +kernel
theorem dX7_isNameTaken_44 : decode cX7_isNameTaken 44 = .ok (.iconst 1, 1) := by decide +kernel
theorem dX7_isNameTaken_45 : decode cX7_isNameTaken 45 = .ok (.ireturn, 1) := by decide +kernel
theorem dX7_isNameTaken_46 : decode cX7_isNameTaken 46 = .ok (.iinc 3 1, 3) := by decide +kernel
theorem dX7_isNameTaken_49 : decode cX7_isNameTaken 49 = .ok (.goto (-47), 3) := by decide +kernel
theorem dX7_isNameTaken_52 : decode cX7_isNameTaken 52 = .ok (.iconst 0, 1) := by decide +kernel
theorem dX7_isNameTaken_53 : decode cX7_isNameTaken 53 = .ok (.ireturn, 1) := by decide +kernel
theorem dX7_hasHadServices_0 : decode cX7_hasHadServices 0 = .ok (.iconst 0, 1) := by decide +kernel
theorem dX7_hasHadServices_1 : decode cX7_hasHadServices 1 = .ok (.istore_n 2, 1) := by decide +kernel
theorem dX7_hasHadServices_2 : decode cX7_hasHadServices 2 = .ok (.iload_n 2, 1) := by decide +kernel
theorem dX7_hasHadServices_3 : decode cX7_hasHadServices 3 = .ok (.aload_n 0, 1) := by decide +kernel
theorem dX7_hasHadServices_4 : decode cX7_hasHadServices 4 = .ok (.getfield 103, 3) := by decide +kernel
theorem dX7_hasHadServices_7 : decode cX7_hasHadServices 7 = .ok (.if_icmp .ge 24, 3) := by decide +kernel
theorem dX7_hasHadServices_10 : decode cX7_hasHadServices 10 = .ok (.aload_n 0, 1) := by decide +kernel
theorem dX7_hasHadServices_11 : decode cX7_hasHadServices 11 = .ok (.getfield 17, 3) := by decide +kernel
theorem dX7_hasHadServices_14 : decode cX7_hasHadServices 14 = .ok (.iload_n 2, 1) := by decide +kernel
theorem dX7_hasHadServices_15 : decode cX7_hasHadServices 15 = .ok (.aaload, 1) := by decide +kernel
theorem dX7_hasHadServices_16 : decode cX7_hasHadServices 16 = .ok (.getfield 106, 3) := by decide +kernel
theorem dX7_hasHadServices_19 : decode cX7_hasHadServices 19 = .ok (.aload_n 1, 1) := by decide +kernel
theorem dX7_hasHadServices_20 : decode cX7_hasHadServices 20 = .ok (.if_acmp .ne 5, 3) := by decide +kernel
theorem dX7_hasHadServices_23 : decode cX7_hasHadServices 23 = .ok (.iconst 1, 1) := by decide +kernel
theorem dX7_hasHadServices_24 : decode cX7_hasHadServices 24 = .ok (.ireturn, 1) := by decide +kernel
theorem dX7_hasHadServices_25 : decode cX7_hasHadServices 25 = .ok (.iinc 2 1, 3) := by decide +kernel
theorem dX7_hasHadServices_28 : decode cX7_hasHadServices 28 = .ok (.goto (-26), 3) := by decide +kernel
theorem dX7_hasHadServices_31 : decode cX7_hasHadServices 31 = .ok (.iconst 0, 1) := by decide +kernel
theorem dX7_hasHadServices_32 : decode cX7_hasHadServices 32 = .ok (.ireturn, 1) := by decide +kernel
theorem dX7_isProxyOfASleeper_0 : decode cX7_isProxyOfASleeper 0 = .ok (.iconst 0, 1) := by decide +kernel
theorem dX7_isProxyOfASleeper_1 : decode cX7_isProxyOfASleeper 1 = .ok (.istore_n 2, 1) := by decide +kernel
theorem dX7_isProxyOfASleeper_2 : decode cX7_isProxyOfASleeper 2 = .ok (.iload_n 2, 1) := by decide +kernel
theorem dX7_isProxyOfASleeper_3 : decode cX7_isProxyOfASleeper 3 = .ok (.aload_n 0, 1) := by decide +kernel
theorem dX7_isProxyOfASleeper_4 : decode cX7_isProxyOfASleeper 4 = .ok (.getfield 25, 3) := by decide +kernel
theorem dX7_isProxyOfASleeper_7 : decode cX7_isProxyOfASleeper 7 = .ok (.if_icmp .ge 37, 3) := by decide +kernel
theorem dX7_isProxyOfASleeper_10 : decode cX7_isProxyOfASleeper 10 = .ok (.aload_n 0, 1) := by decide +kernel
theorem dX7_isProxyOfASleeper_11 : decode cX7_isProxyOfASleeper 11 = .ok (.getfield 11, 3) := by decide +kernel
theorem dX7_isProxyOfASleeper_14 : decode cX7_isProxyOfASleeper 14 = .ok (.iload_n 2, 1) := by decide +kernel
theorem dX7_isProxyOfASleeper_15 : decode cX7_isProxyOfASleeper 15 = .ok (.aaload, 1) := by decide +kernel
theorem dX7_isProxyOfASleeper_16 : decode cX7_isProxyOfASleeper 16 = .ok (.getfield 95, 3) := by decide +kernel
theorem dX7_isProxyOfASleeper_19 : decode cX7_isProxyOfASleeper 19 = .ok (.iconst 1, 1) := by decide +kernel
theorem dX7_isProxyOfASleeper_20 : decode cX7_isProxyOfASleeper 20 = .ok (.if_icmp .ne 18, 3) := by decide +kernel
theorem dX7_isProxyOfASleeper_23 : decode cX7_isProxyOfASleeper 23 = .ok (.aload_n 0, 1) := by decide +kernel
theorem dX7_isProxyOfASleeper_24 : decode cX7_isProxyOfASleeper 24 = .ok (.getfield 11, 3) := by decide +kernel
theorem dX7_isProxyOfASleeper_27 : decode cX7_isProxyOfASleeper 27 = .ok (.iload_n 2, 1) := by decide +kernel
theorem dX7_isProxyOfASleeper_28 : decode cX7_isProxyOfASleeper 28 = .ok (.aaload, 1) := by decide +kernel
theorem dX7_isProxyOfASleeper_29 : decode cX7_isProxyOfASleeper 29 = .ok (.getfield 96, 3) := by decide +kernel
theorem dX7_isProxyOfASleeper_32 : decode cX7_isProxyOfASleeper 32 = .ok (.aload_n 1, 1) := by decide +kernel
theorem dX7_isProxyOfASleeper_33 : decode cX7_isProxyOfASleeper 33 = .ok (.if_acmp .ne 5, 3) := by decide +kernel
theorem dX7_isProxyOfASleeper_36 : decode cX7_isProxyOfASleeper 36 = .ok (.iconst 1, 1) := by decide +kernel
theorem dX7_isProxyOfASleeper_37 : decode cX7_isProxyOfASleeper 37 = .ok (.ireturn, 1) := by decide +kernel
theorem dX7_isProxyOfASleeper_38 : decode cX7_isProxyOfASleeper 38 = .ok (.iinc 2 1, 3) := by decide +kernel
theorem dX7_isProxyOfASleeper_41 : decode cX7_isProxyOfASleeper 41 = .ok (.goto (-39), 3) := by decide +kernel
theorem dX7_isProxyOfASleeper_44 : decode cX7_isProxyOfASleeper 44 = .ok (.iconst 0, 1) := by decide +kernel
theorem dX7_isProxyOfASleeper_45 : decode cX7_isProxyOfASleeper 45 = .ok (.ireturn, 1) := by decide +kernel
theorem dX7_hasProxyAwake_0 : decode cX7_hasProxyAwake 0 = .ok (.aload_n 1, 1) := by decide +kernel
theorem dX7_hasProxyAwake_1 : decode cX7_hasProxyAwake 1 = .ok (.getfield 95, 3) := by decide +kernel
theorem dX7_hasProxyAwake_4 : decode cX7_hasProxyAwake 4 = .ok (.iconst 1, 1) := by decide +kernel
theorem dX7_hasProxyAwake_5 : decode cX7_hasProxyAwake 5 = .ok (.if_icmp .ne 25, 3) := by decide +kernel
theorem dX7_hasProxyAwake_8 : decode cX7_hasProxyAwake 8 = .ok (.aload_n 1, 1) := by decide +kernel
theorem dX7_hasProxyAwake_9 : decode cX7_hasProxyAwake 9 = .ok (.getfield 96, 3) := by decide +kernel
theorem dX7_hasProxyAwake_12 : decode cX7_hasProxyAwake 12 = .ok (.ifnull 18, 3) := by decide +kernel
theorem dX7_hasProxyAwake_15 : decode cX7_hasProxyAwake 15 = .ok (.aload_n 1, 1) := by decide +kernel
theorem dX7_hasProxyAwake_16 : decode cX7_hasProxyAwake 16 = .ok (.getfield 96, 3) := by decide +kernel
theorem dX7_hasProxyAwake_19 : decode cX7_hasProxyAwake 19 = .ok (.getfield 95, 3) := by decide +kernel
theorem dX7_hasProxyAwake_22 : decode cX7_hasProxyAwake 22 = .ok (.iconst 2, 1) := by decide +kernel
theorem dX7_hasProxyAwake_23 : decode cX7_hasProxyAwake 23 = .ok (.if_icmp .ne 7, 3) := by decide +kernel
theorem dX7_hasProxyAwake_26 : decode cX7_hasProxyAwake 26 = .ok (.iconst 1, 1) := by decide +kernel
theorem dX7_hasProxyAwake_27 : decode cX7_hasProxyAwake 27 = .ok (.goto 4, 3) := by decide +kernel
theorem dX7_hasProxyAwake_30 : decode cX7_hasProxyAwake 30 = .ok (.iconst 0, 1) := by decide +kernel
theorem dX7_hasProxyAwake_31 : decode cX7_hasProxyAwake 31 = .ok (.ireturn, 1) := by decide +kernel
theorem dX7_isSpokenForOn_0 : decode cX7_isSpokenForOn 0 = .ok (.aload_n 1, 1) := by decide +kernel
theorem dX7_isSpokenForOn_1 : decode cX7_isSpokenForOn 1 = .ok (.getfield 59, 3) := by decide +kernel
theorem dX7_isSpokenForOn_4 : decode cX7_isSpokenForOn 4 = .ok (.iconst 2, 1) := by decide +kernel
theorem dX7_isSpokenForOn_5 : decode cX7_isSpokenForOn 5 = .ok (.if_icmp .ne 10, 3) := by decide +kernel
theorem dX7_isSpokenForOn_8 : decode cX7_isSpokenForOn 8 = .ok (.aload_n 1, 1) := by decide +kernel
theorem dX7_isSpokenForOn_9 : decode cX7_isSpokenForOn 9 = .ok (.getfield 265, 3) := by decide +kernel
theorem dX7_isSpokenForOn_12 : decode cX7_isSpokenForOn 12 = .ok (.ifCond .eq 5, 3) := by decide +kernel
theorem dX7_isSpokenForOn_15 : decode cX7_isSpokenForOn 15 = .ok (.iconst 0, 1) := by decide +kernel
theorem dX7_isSpokenForOn_16 : decode cX7_isSpokenForOn 16 = .ok (.ireturn, 1) := by decide +kernel
theorem dX7_isSpokenForOn_17 : decode cX7_isSpokenForOn 17 = .ok (.aload_n 1, 1) := by decide +kernel
theorem dX7_isSpokenForOn_18 : decode cX7_isSpokenForOn 18 = .ok (.getfield 106, 3) := by decide +kernel
theorem dX7_isSpokenForOn_21 : decode cX7_isSpokenForOn 21 = .ok (.getfield 88, 3) := by decide +kernel
theorem dX7_isSpokenForOn_24 : decode cX7_isSpokenForOn 24 = .ok (.iload_n 2, 1) := by decide +kernel
theorem dX7_isSpokenForOn_25 : decode cX7_isSpokenForOn 25 = .ok (.if_icmp .ne 29, 3) := by decide +kernel
theorem dX7_isSpokenForOn_28 : decode cX7_isSpokenForOn 28 = .ok (.aload_n 1, 1) := by decide +kernel
theorem dX7_isSpokenForOn_29 : decode cX7_isSpokenForOn 29 = .ok (.getfield 106, 3) := by decide +kernel
theorem dX7_isSpokenForOn_32 : decode cX7_isSpokenForOn 32 = .ok (.getfield 95, 3) := by decide +kernel
theorem dX7_isSpokenForOn_35 : decode cX7_isSpokenForOn 35 = .ok (.iconst 2, 1) := by decide +kernel
theorem dX7_isSpokenForOn_36 : decode cX7_isSpokenForOn 36 = .ok (.if_icmp .eq 14, 3) := by decide +kernel
theorem dX7_isSpokenForOn_39 : decode cX7_isSpokenForOn 39 = .ok (.aload_n 0, 1) := by decide +kernel
theorem dX7_isSpokenForOn_40 : decode cX7_isSpokenForOn 40 = .ok (.aload_n 1, 1) := by decide +kernel
theorem dX7_isSpokenForOn_41 : decode cX7_isSpokenForOn 41 = .ok (.getfield 106, 3) := by decide +kernel
theorem dX7_isSpokenForOn_44 : decode cX7_isSpokenForOn 44 = .ok (.invokevirtual 210, 3) := by decide +kernel
theorem dX7_isSpokenForOn_47 : decode cX7_isSpokenForOn 47 = .ok (.ifCond .eq 7, 3) := by decide +kernel
theorem dX7_isSpokenForOn_50 : decode cX7_isSpokenForOn 50 = .ok (.iconst 1, 1) := by decide +kernel
theorem dX7_isSpokenForOn_51 : decode cX7_isSpokenForOn 51 = .ok (.goto 4, 3) := by decide +kernel
theorem dX7_isSpokenForOn_54 : decode cX7_isSpokenForOn 54 = .ok (.iconst 0, 1) := by decide +kernel
theorem dX7_isSpokenForOn_55 : decode cX7_isSpokenForOn 55 = .ok (.ireturn, 1) := by decide +kernel
theorem dX7_isFound_0 : decode cX7_isFound 0 = .ok (.aload_n 1, 1) := by decide +kernel
theorem dX7_isFound_1 : decode cX7_isFound 1 = .ok (.iload_n 2, 1) := by decide +kernel
theorem dX7_isFound_2 : decode cX7_isFound 2 = .ok (.invokevirtual 191, 3) := by decide +kernel
theorem dX7_isFound_5 : decode cX7_isFound 5 = .ok (.ifCond .eq 34, 3) := by decide +kernel
theorem dX7_isFound_8 : decode cX7_isFound 8 = .ok (.aload_n 0, 1) := by decide +kernel
theorem dX7_isFound_9 : decode cX7_isFound 9 = .ok (.getfield 17, 3) := by decide +kernel
theorem dX7_isFound_12 : decode cX7_isFound 12 = .ok (.iload_n 2, 1) := by decide +kernel
theorem dX7_isFound_13 : decode cX7_isFound 13 = .ok (.aaload, 1) := by decide +kernel
theorem dX7_isFound_14 : decode cX7_isFound 14 = .ok (.getfield 268, 3) := by decide +kernel
theorem dX7_isFound_17 : decode cX7_isFound 17 = .ok (.iload_n 3, 1) := by decide +kernel
theorem dX7_isFound_18 : decode cX7_isFound 18 = .ok (.if_icmp .ne 21, 3) := by decide +kernel
theorem dX7_isFound_21 : decode cX7_isFound 21 = .ok (.aload_n 1, 1) := by decide +kernel
theorem dX7_isFound_22 : decode cX7_isFound 22 = .ok (.getfield 192, 3) := by decide +kernel
theorem dX7_isFound_25 : decode cX7_isFound 25 = .ok (.iload_n 2, 1) := by decide +kernel
theorem dX7_isFound_26 : decode cX7_isFound 26 = .ok (.iaload, 1) := by decide +kernel
theorem dX7_isFound_27 : decode cX7_isFound 27 = .ok (.iload 4, 2) := by decide +kernel
theorem dX7_isFound_29 : decode cX7_isFound 29 = .ok (.iand, 1) := by decide +kernel
theorem dX7_isFound_30 : decode cX7_isFound 30 = .ok (.iload 4, 2) := by decide +kernel
theorem dX7_isFound_32 : decode cX7_isFound 32 = .ok (.if_icmp .ne 7, 3) := by decide +kernel
theorem dX7_isFound_35 : decode cX7_isFound 35 = .ok (.iconst 1, 1) := by decide +kernel
theorem dX7_isFound_36 : decode cX7_isFound 36 = .ok (.goto 4, 3) := by decide +kernel
theorem dX7_isFound_39 : decode cX7_isFound 39 = .ok (.iconst 0, 1) := by decide +kernel
theorem dX7_isFound_40 : decode cX7_isFound 40 = .ok (.ireturn, 1) := by decide +kernel
theorem dX7_lotOf_0 : decode cX7_lotOf 0 = .ok (.iconst 5, 1) := by decide +kernel
theorem dX7_lotOf_1 : decode cX7_lotOf 1 = .ok (.aload_n 1, 1) := by decide +kernel
theorem dX7_lotOf_2 : decode cX7_lotOf 2 = .ok (.getfield 32, 3) := by decide +kernel
theorem dX7_lotOf_5 : decode cX7_lotOf 5 = .ok (.imul, 1) := by decide +kernel
theorem dX7_lotOf_6 : decode cX7_lotOf 6 = .ok (.iconst 3, 1) := by decide +kernel
theorem dX7_lotOf_7 : decode cX7_lotOf 7 = .ok (.aload_n 0, 1) := by decide +kernel
theorem dX7_lotOf_8 : decode cX7_lotOf 8 = .ok (.getfield 62, 3) := by decide +kernel
theorem dX7_lotOf_11 : decode cX7_lotOf 11 = .ok (.imul, 1) := by decide +kernel
theorem dX7_lotOf_12 : decode cX7_lotOf 12 = .ok (.iadd, 1) := by decide +kernel
theorem dX7_lotOf_13 : decode cX7_lotOf 13 = .ok (.iconst 4, 1) := by decide +kernel
theorem dX7_lotOf_14 : decode cX7_lotOf 14 = .ok (.irem, 1) := by decide +kernel
theorem dX7_lotOf_15 : decode cX7_lotOf 15 = .ok (.ireturn, 1) := by decide +kernel
theorem dX7_rouse_0 : decode cX7_rouse 0 = .ok (.aload_n 1, 1) := by decide +kernel
theorem dX7_rouse_1 : decode cX7_rouse 1 = .ok (.getfield 95, 3) := by decide +kernel
theorem dX7_rouse_4 : decode cX7_rouse 4 = .ok (.iconst 1, 1) := by decide +kernel
theorem dX7_rouse_5 : decode cX7_rouse 5 = .ok (.if_icmp .ne 18, 3) := by decide +kernel
theorem dX7_rouse_8 : decode cX7_rouse 8 = .ok (.aload_n 1, 1) := by decide +kernel
theorem dX7_rouse_9 : decode cX7_rouse 9 = .ok (.iconst 2, 1) := by decide +kernel
theorem dX7_rouse_10 : decode cX7_rouse 10 = .ok (.putfield 95, 3) := by decide +kernel
theorem dX7_rouse_13 : decode cX7_rouse 13 = .ok (.aload_n 0, 1) := by decide +kernel
theorem dX7_rouse_14 : decode cX7_rouse 14 = .ok (.dup, 1) := by decide +kernel
theorem dX7_rouse_15 : decode cX7_rouse 15 = .ok (.getfield 241, 3) := by decide +kernel
theorem dX7_rouse_18 : decode cX7_rouse 18 = .ok (.iconst 1, 1) := by decide +kernel
theorem dX7_rouse_19 : decode cX7_rouse 19 = .ok (.iadd, 1) := by decide +kernel
theorem dX7_rouse_20 : decode cX7_rouse 20 = .ok (.putfield 241, 3) := by decide +kernel
theorem dX7_rouse_23 : decode cX7_rouse 23 = .ok (.return_, 1) := by decide +kernel
theorem dX7_speaksFor_0 : decode cX7_speaksFor 0 = .ok (.aload_n 2, 1) := by decide +kernel
theorem dX7_speaksFor_1 : decode cX7_speaksFor 1 = .ok (.getfield 106, 3) := by decide +kernel
theorem dX7_speaksFor_4 : decode cX7_speaksFor 4 = .ok (.aload_n 1, 1) := by decide +kernel
theorem dX7_speaksFor_5 : decode cX7_speaksFor 5 = .ok (.if_acmp .ne 16, 3) := by decide +kernel
theorem dX7_speaksFor_8 : decode cX7_speaksFor 8 = .ok (.aload_n 2, 1) := by decide +kernel
theorem dX7_speaksFor_9 : decode cX7_speaksFor 9 = .ok (.getfield 59, 3) := by decide +kernel
theorem dX7_speaksFor_12 : decode cX7_speaksFor 12 = .ok (.ifCond .eq 7, 3) := by decide +kernel
theorem dX7_speaksFor_15 : decode cX7_speaksFor 15 = .ok (.iconst 1, 1) := by decide +kernel
theorem dX7_speaksFor_16 : decode cX7_speaksFor 16 = .ok (.goto 4, 3) := by decide +kernel
theorem dX7_speaksFor_19 : decode cX7_speaksFor 19 = .ok (.iconst 0, 1) := by decide +kernel
theorem dX7_speaksFor_20 : decode cX7_speaksFor 20 = .ok (.ireturn, 1) := by decide +kernel
theorem dX7_speaksFor_21 : decode cX7_speaksFor 21 = .ok (.aload_n 2, 1) := by decide +kernel
theorem dX7_speaksFor_22 : decode cX7_speaksFor 22 = .ok (.getfield 59, 3) := by decide +kernel
theorem dX7_speaksFor_25 : decode cX7_speaksFor 25 = .ok (.iconst 2, 1) := by decide +kernel
theorem dX7_speaksFor_26 : decode cX7_speaksFor 26 = .ok (.if_icmp .ne 29, 3) := by decide +kernel
theorem dX7_speaksFor_29 : decode cX7_speaksFor 29 = .ok (.aload_n 2, 1) := by decide +kernel
theorem dX7_speaksFor_30 : decode cX7_speaksFor 30 = .ok (.getfield 106, 3) := by decide +kernel
theorem dX7_speaksFor_33 : decode cX7_speaksFor 33 = .ok (.getfield 95, 3) := by decide +kernel
theorem dX7_speaksFor_36 : decode cX7_speaksFor 36 = .ok (.iconst 1, 1) := by decide +kernel
theorem dX7_speaksFor_37 : decode cX7_speaksFor 37 = .ok (.if_icmp .ne 18, 3) := by decide +kernel
theorem dX7_speaksFor_40 : decode cX7_speaksFor 40 = .ok (.aload_n 2, 1) := by decide +kernel
theorem dX7_speaksFor_41 : decode cX7_speaksFor 41 = .ok (.getfield 106, 3) := by decide +kernel
theorem dX7_speaksFor_44 : decode cX7_speaksFor 44 = .ok (.getfield 96, 3) := by decide +kernel
theorem dX7_speaksFor_47 : decode cX7_speaksFor 47 = .ok (.aload_n 1, 1) := by decide +kernel
theorem dX7_speaksFor_48 : decode cX7_speaksFor 48 = .ok (.if_acmp .ne 7, 3) := by decide +kernel
theorem dX7_speaksFor_51 : decode cX7_speaksFor 51 = .ok (.iconst 1, 1) := by decide +kernel
theorem dX7_speaksFor_52 : decode cX7_speaksFor 52 = .ok (.goto 4, 3) := by decide +kernel
theorem dX7_speaksFor_55 : decode cX7_speaksFor 55 = .ok (.iconst 0, 1) := by decide +kernel
theorem dX7_speaksFor_56 : decode cX7_speaksFor 56 = .ok (.ireturn, 1) := by decide +kernel
theorem dX7_isStronger_0 : decode cX7_isStronger 0 = .ok (.aload_n 1, 1) := by decide +kernel
theorem dX7_isStronger_1 : decode cX7_isStronger 1 = .ok (.getfield 106, 3) := by decide +kernel
theorem dX7_isStronger_4 : decode cX7_isStronger 4 = .ok (.aload_n 2, 1) := by decide +kernel
theorem dX7_isStronger_5 : decode cX7_isStronger 5 = .ok (.getfield 106, 3) := by decide +kernel
theorem dX7_isStronger_8 : decode cX7_isStronger 8 = .ok (.if_acmp .ne 20, 3) := by decide +kernel
theorem dX7_isStronger_11 : decode cX7_isStronger 11 = .ok (.aload_n 1, 1) := by decide +kernel
theorem dX7_isStronger_12 : decode cX7_isStronger 12 = .ok (.getfield 264, 3) := by decide +kernel
theorem dX7_isStronger_15 : decode cX7_isStronger 15 = .ok (.aload_n 2, 1) := by decide +kernel
theorem dX7_isStronger_16 : decode cX7_isStronger 16 = .ok (.getfield 264, 3) := by decide +kernel
theorem dX7_isStronger_19 : decode cX7_isStronger 19 = .ok (.if_icmp .ge 7, 3) := by decide +kernel
theorem dX7_isStronger_22 : decode cX7_isStronger 22 = .ok (.iconst 1, 1) := by decide +kernel
theorem dX7_isStronger_23 : decode cX7_isStronger 23 = .ok (.goto 4, 3) := by decide +kernel
theorem dX7_isStronger_26 : decode cX7_isStronger 26 = .ok (.iconst 0, 1) := by decide +kernel
theorem dX7_isStronger_27 : decode cX7_isStronger 27 = .ok (.ireturn, 1) := by decide +kernel
theorem dX7_isStronger_28 : decode cX7_isStronger 28 = .ok (.aload_n 1, 1) := by decide +kernel
theorem dX7_isStronger_29 : decode cX7_isStronger 29 = .ok (.getfield 106, 3) := by decide +kernel
theorem dX7_isStronger_32 : decode cX7_isStronger 32 = .ok (.getfield 271, 3) := by decide +kernel
theorem dX7_isStronger_35 : decode cX7_isStronger 35 = .ok (.aload_n 2, 1) := by decide +kernel
theorem dX7_isStronger_36 : decode cX7_isStronger 36 = .ok (.getfield 106, 3) := by decide +kernel
theorem dX7_isStronger_39 : decode cX7_isStronger 39 = .ok (.getfield 271, 3) := by decide +kernel
theorem dX7_isStronger_42 : decode cX7_isStronger 42 = .ok (.if_icmp .eq 26, 3) := by decide +kernel
theorem dX7_isStronger_45 : decode cX7_isStronger 45 = .ok (.aload_n 1, 1) := by decide +kernel
theorem dX7_isStronger_46 : decode cX7_isStronger 46 = .ok (.getfield 106, 3) := by decide +kernel
theorem dX7_isStronger_49 : decode cX7_isStronger 49 = .ok (.getfield 271, 3) := by decide +kernel
theorem dX7_isStronger_52 : decode cX7_isStronger 52 = .ok (.aload_n 2, 1) := by decide +kernel
theorem dX7_isStronger_53 : decode cX7_isStronger 53 = .ok (.getfield 106, 3) := by decide +kernel
theorem dX7_isStronger_56 : decode cX7_isStronger 56 = .ok (.getfield 271, 3) := by decide +kernel
theorem dX7_isStronger_59 : decode cX7_isStronger 59 = .ok (.if_icmp .le 7, 3) := by decide +kernel
theorem dX7_isStronger_62 : decode cX7_isStronger 62 = .ok (.iconst 1, 1) := by decide +kernel
theorem dX7_isStronger_63 : decode cX7_isStronger 63 = .ok (.goto 4, 3) := by decide +kernel
theorem dX7_isStronger_66 : decode cX7_isStronger 66 = .ok (.iconst 0, 1) := by decide +kernel
theorem dX7_isStronger_67 : decode cX7_isStronger 67 = .ok (.ireturn, 1) := by decide +kernel
theorem dX7_isStronger_68 : decode cX7_isStronger 68 = .ok (.aload_n 1, 1) := by decide +kernel
theorem dX7_isStronger_69 : decode cX7_isStronger 69 = .ok (.getfield 106, 3) := by decide +kernel
theorem dX7_isStronger_72 : decode cX7_isStronger 72 = .ok (.getfield 32, 3) := by decide +kernel
theorem dX7_isStronger_75 : decode cX7_isStronger 75 = .ok (.aload_n 2, 1) := by decide +kernel
theorem dX7_isStronger_76 : decode cX7_isStronger 76 = .ok (.getfield 106, 3) := by decide +kernel
theorem dX7_isStronger_79 : decode cX7_isStronger 79 = .ok (.getfield 32, 3) := by decide +kernel
theorem dX7_isStronger_82 : decode cX7_isStronger 82 = .ok (.if_icmp .ge 7, 3) := by decide +kernel
theorem dX7_isStronger_85 : decode cX7_isStronger 85 = .ok (.iconst 1, 1) := by decide +kernel
theorem dX7_isStronger_86 : decode cX7_isStronger 86 = .ok (.goto 4, 3) := by decide +kernel
theorem dX7_isStronger_89 : decode cX7_isStronger 89 = .ok (.iconst 0, 1) := by decide +kernel
theorem dX7_isStronger_90 : decode cX7_isStronger 90 = .ok (.ireturn, 1) := by decide +kernel
theorem dX7_holdClaimedNames_0 : decode cX7_holdClaimedNames 0 = .ok (.iconst 0, 1) := by decide +kernel
theorem dX7_holdClaimedNames_1 : decode cX7_holdClaimedNames 1 = .ok (.istore_n 1, 1) := by decide +kernel
theorem dX7_holdClaimedNames_2 : decode cX7_holdClaimedNames 2 = .ok (.iload_n 1, 1) := by decide +kernel
theorem dX7_holdClaimedNames_3 : decode cX7_holdClaimedNames 3 = .ok (.aload_n 0, 1) := by decide +kernel
theorem dX7_holdClaimedNames_4 : decode cX7_holdClaimedNames 4 = .ok (.getfield 103, 3) := by decide +kernel
theorem dX7_holdClaimedNames_7 : decode cX7_holdClaimedNames 7 = .ok (.if_icmp .ge 50, 3) := by decide +kernel
theorem dX7_holdClaimedNames_10 : decode cX7_holdClaimedNames 10 = .ok (.aload_n 0, 1) := by decide +kernel
theorem dX7_holdClaimedNames_11 : decode cX7_holdClaimedNames 11 = .ok (.getfield 17, 3) := by decide +kernel
theorem dX7_holdClaimedNames_14 : decode cX7_holdClaimedNames 14 = .ok (.iload_n 1, 1) := by decide +kernel
theorem dX7_holdClaimedNames_15 : decode cX7_holdClaimedNames 15 = .ok (.aaload, 1) := by decide +kernel
theorem dX7_holdClaimedNames_16 : decode cX7_holdClaimedNames 16 = .ok (.astore_n 2, 1) := by decide +kernel
theorem dX7_holdClaimedNames_17 : decode cX7_holdClaimedNames 17 = .ok (.aload_n 2, 1) := by decide +kernel
theorem dX7_holdClaimedNames_18 : decode cX7_holdClaimedNames 18 = .ok (.getfield 59, 3) := by decide +kernel
theorem dX7_holdClaimedNames_21 : decode cX7_holdClaimedNames 21 = .ok (.iconst 1, 1) := by decide +kernel
theorem dX7_holdClaimedNames_22 : decode cX7_holdClaimedNames 22 = .ok (.if_icmp .ne 29, 3) := by decide +kernel
theorem dX7_holdClaimedNames_25 : decode cX7_holdClaimedNames 25 = .ok (.aload_n 2, 1) := by decide +kernel
theorem dX7_holdClaimedNames_26 : decode cX7_holdClaimedNames 26 = .ok (.getfield 203, 3) := by decide +kernel
theorem dX7_holdClaimedNames_29 : decode cX7_holdClaimedNames 29 = .ok (.ifCond .ne 22, 3) := by decide +kernel
theorem dX7_holdClaimedNames_32 : decode cX7_holdClaimedNames 32 = .ok (.aload_n 2, 1) := by decide +kernel
theorem dX7_holdClaimedNames_33 : decode cX7_holdClaimedNames 33 = .ok (.getfield 106, 3) := by decide +kernel
theorem dX7_holdClaimedNames_36 : decode cX7_holdClaimedNames 36 = .ok (.getfield 95, 3) := by decide +kernel
theorem dX7_holdClaimedNames_39 : decode cX7_holdClaimedNames 39 = .ok (.iconst 2, 1) := by decide +kernel
theorem dX7_holdClaimedNames_40 : decode cX7_holdClaimedNames 40 = .ok (.if_icmp .ne 11, 3) := by decide +kernel
theorem dX7_holdClaimedNames_43 : decode cX7_holdClaimedNames 43 = .ok (.aload_n 2, 1) := by decide +kernel
theorem dX7_holdClaimedNames_44 : decode cX7_holdClaimedNames 44 = .ok (.aload_n 0, 1) := by decide +kernel
theorem dX7_holdClaimedNames_45 : decode cX7_holdClaimedNames 45 = .ok (.getfield 62, 3) := by decide +kernel
theorem dX7_holdClaimedNames_48 : decode cX7_holdClaimedNames 48 = .ok (.invokevirtual 260, 3) := by decide +kernel
theorem dX7_holdClaimedNames_51 : decode cX7_holdClaimedNames 51 = .ok (.iinc 1 1, 3) := by decide +kernel
theorem dX7_holdClaimedNames_54 : decode cX7_holdClaimedNames 54 = .ok (.goto (-52), 3) := by decide +kernel
theorem dX7_holdClaimedNames_57 : decode cX7_holdClaimedNames 57 = .ok (.return_, 1) := by decide +kernel
theorem dX7_writeLetters_0 : decode cX7_writeLetters 0 = .ok (.aload_n 0, 1) := by decide +kernel
theorem dX7_writeLetters_1 : decode cX7_writeLetters 1 = .ok (.iconst 0, 1) := by decide +kernel
theorem dX7_writeLetters_2 : decode cX7_writeLetters 2 = .ok (.putfield 244, 3) := by decide +kernel
theorem dX7_writeLetters_5 : decode cX7_writeLetters 5 = .ok (.iconst 0, 1) := by decide +kernel
theorem dX7_writeLetters_6 : decode cX7_writeLetters 6 = .ok (.istore_n 1, 1) := by decide +kernel
theorem dX7_writeLetters_7 : decode cX7_writeLetters 7 = .ok (.iload_n 1, 1) := by decide +kernel
theorem dX7_writeLetters_8 : decode cX7_writeLetters 8 = .ok (.aload_n 0, 1) := by decide +kernel
theorem dX7_writeLetters_9 : decode cX7_writeLetters 9 = .ok (.getfield 25, 3) := by decide +kernel
theorem dX7_writeLetters_12 : decode cX7_writeLetters 12 = .ok (.if_icmp .ge 121, 3) := by decide +kernel
theorem dX7_writeLetters_15 : decode cX7_writeLetters 15 = .ok (.aload_n 0, 1) := by decide +kernel
theorem dX7_writeLetters_16 : decode cX7_writeLetters 16 = .ok (.getfield 11, 3) := by decide +kernel
theorem dX7_writeLetters_19 : decode cX7_writeLetters 19 = .ok (.iload_n 1, 1) := by decide +kernel
theorem dX7_writeLetters_20 : decode cX7_writeLetters 20 = .ok (.aaload, 1) := by decide +kernel
theorem dX7_writeLetters_21 : decode cX7_writeLetters 21 = .ok (.astore_n 2, 1) := by decide +kernel
theorem dX7_writeLetters_22 : decode cX7_writeLetters 22 = .ok (.aload_n 2, 1) := by decide +kernel
theorem dX7_writeLetters_23 : decode cX7_writeLetters 23 = .ok (.invokevirtual 274, 3) := by decide +kernel
theorem dX7_writeLetters_26 : decode cX7_writeLetters 26 = .ok (.aload_n 2, 1) := by decide +kernel
theorem dX7_writeLetters_27 : decode cX7_writeLetters 27 = .ok (.getfield 95, 3) := by decide +kernel
theorem dX7_writeLetters_30 : decode cX7_writeLetters 30 = .ok (.iconst 3, 1) := by decide +kernel
theorem dX7_writeLetters_31 : decode cX7_writeLetters 31 = .ok (.if_icmp .ne 28, 3) := by decide +kernel
theorem dX7_writeLetters_34 : decode cX7_writeLetters 34 = .ok (.aload_n 0, 1) := by decide +kernel
theorem dX7_writeLetters_35 : decode cX7_writeLetters 35 = .ok (.aload_n 2, 1) := by decide +kernel
theorem dX7_writeLetters_36 : decode cX7_writeLetters 36 = .ok (.invokevirtual 277, 3) := by decide +kernel
theorem dX7_writeLetters_39 : decode cX7_writeLetters 39 = .ok (.aload_n 2, 1) := by decide +kernel
theorem dX7_writeLetters_40 : decode cX7_writeLetters 40 = .ok (.invokevirtual 112, 3) := by decide +kernel
theorem dX7_writeLetters_43 : decode cX7_writeLetters 43 = .ok (.aload_n 0, 1) := by decide +kernel
theorem dX7_writeLetters_44 : decode cX7_writeLetters 44 = .ok (.aload_n 2, 1) := by decide +kernel
theorem dX7_writeLetters_45 : decode cX7_writeLetters 45 = .ok (.aload_n 2, 1) := by decide +kernel
theorem dX7_writeLetters_46 : decode cX7_writeLetters 46 = .ok (.getfield 280, 3) := by decide +kernel
theorem dX7_writeLetters_49 : decode cX7_writeLetters 49 = .ok (.aload_n 2, 1) := by decide +kernel
theorem dX7_writeLetters_50 : decode cX7_writeLetters 50 = .ok (.getfield 88, 3) := by decide +kernel
theorem dX7_writeLetters_53 : decode cX7_writeLetters 53 = .ok (.invokevirtual 284, 3) := by decide +kernel
theorem dX7_writeLetters_56 : decode cX7_writeLetters 56 = .ok (.goto 71, 3) := by decide +kernel
theorem dX7_writeLetters_59 : decode cX7_writeLetters 59 = .ok (.aload_n 2, 1) := by decide +kernel
theorem dX7_writeLetters_60 : decode cX7_writeLetters 60 = .ok (.getfield 95, 3) := by decide +kernel
theorem dX7_writeLetters_63 : decode cX7_writeLetters 63 = .ok (.iconst 2, 1) := by decide +kernel
theorem dX7_writeLetters_64 : decode cX7_writeLetters 64 = .ok (.if_icmp .ne 22, 3) := by decide +kernel
theorem dX7_writeLetters_67 : decode cX7_writeLetters 67 = .ok (.aload_n 2, 1) := by decide +kernel
theorem dX7_writeLetters_68 : decode cX7_writeLetters 68 = .ok (.getfield 155, 3) := by decide +kernel
theorem dX7_writeLetters_71 : decode cX7_writeLetters 71 = .ok (.ifnull 15, 3) := by decide +kernel
theorem dX7_writeLetters_74 : decode cX7_writeLetters 74 = .ok (.aload_n 0, 1) := by decide +kernel
theorem dX7_writeLetters_75 : decode cX7_writeLetters 75 = .ok (.aload_n 2, 1) := by decide +kernel
theorem dX7_writeLetters_76 : decode cX7_writeLetters 76 = .ok (.aload_n 2, 1) := by decide +kernel
theorem dX7_writeLetters_77 : decode cX7_writeLetters 77 = .ok (.getfield 155, 3) := by decide +kernel
theorem dX7_writeLetters_80 : decode cX7_writeLetters 80 = .ok (.invokevirtual 288, 3) := by decide +kernel
theorem dX7_writeLetters_83 : decode cX7_writeLetters 83 = .ok (.goto 44, 3) := by decide +kernel
theorem dX7_writeLetters_86 : decode cX7_writeLetters 86 = .ok (.aload_n 2, 1) := by decide +kernel
theorem dX7_writeLetters_87 : decode cX7_writeLetters 87 = .ok (.getfield 95, 3) := by decide +kernel
theorem dX7_writeLetters_90 : decode cX7_writeLetters 90 = .ok (.iconst 2, 1) := by decide +kernel
theorem dX7_writeLetters_91 : decode cX7_writeLetters 91 = .ok (.if_icmp .ne 36, 3) := by decide +kernel
theorem dX7_writeLetters_94 : decode cX7_writeLetters 94 = .ok (.aload_n 0, 1) := by decide +kernel
theorem dX7_writeLetters_95 : decode cX7_writeLetters 95 = .ok (.aload_n 2, 1) := by decide +kernel
theorem dX7_writeLetters_96 : decode cX7_writeLetters 96 = .ok (.invokevirtual 292, 3) := by decide +kernel
theorem dX7_writeLetters_99 : decode cX7_writeLetters 99 = .ok (.aload_n 0, 1) := by decide +kernel
theorem dX7_writeLetters_100 : decode cX7_writeLetters 100 = .ok (.aload_n 2, 1) := by decide +kernel
theorem dX7_writeLetters_101 : decode cX7_writeLetters 101 = .ok (.invokevirtual 295, 3) := by decide +kernel
theorem dX7_writeLetters_104 : decode cX7_writeLetters 104 = .ok (.aload_n 0, 1) := by decide +kernel
theorem dX7_writeLetters_105 : decode cX7_writeLetters 105 = .ok (.aload_n 2, 1) := by decide +kernel
theorem dX7_writeLetters_106 : decode cX7_writeLetters 106 = .ok (.invokevirtual 277, 3) := by decide +kernel
theorem dX7_writeLetters_109 : decode cX7_writeLetters 109 = .ok (.aload_n 0, 1) := by decide +kernel
theorem dX7_writeLetters_110 : decode cX7_writeLetters 110 = .ok (.aload_n 2, 1) := by decide +kernel
theorem dX7_writeLetters_111 : decode cX7_writeLetters 111 = .ok (.invokevirtual 298, 3) := by decide +kernel
theorem dX7_writeLetters_114 : decode cX7_writeLetters 114 = .ok (.aload_n 0, 1) := by decide +kernel
theorem dX7_writeLetters_115 : decode cX7_writeLetters 115 = .ok (.aload_n 2, 1) := by decide +kernel
theorem dX7_writeLetters_116 : decode cX7_writeLetters 116 = .ok (.aload_n 2, 1) := by decide +kernel
theorem dX7_writeLetters_117 : decode cX7_writeLetters 117 = .ok (.getfield 280, 3) := by decide +kernel
theorem dX7_writeLetters_120 : decode cX7_writeLetters 120 = .ok (.aload_n 2, 1) := by decide +kernel
theorem dX7_writeLetters_121 : decode cX7_writeLetters 121 = .ok (.getfield 88, 3) := by decide +kernel
theorem dX7_writeLetters_124 : decode cX7_writeLetters 124 = .ok (.invokevirtual 284, 3) := by decide +kernel
theorem dX7_writeLetters_127 : decode cX7_writeLetters 127 = .ok (.iinc 1 1, 3) := by decide +kernel
theorem dX7_writeLetters_130 : decode cX7_writeLetters 130 = .ok (.goto (-123), 3) := by decide +kernel
theorem dX7_writeLetters_133 : decode cX7_writeLetters 133 = .ok (.return_, 1) := by decide +kernel
theorem dX7_writeAsks_0 : decode cX7_writeAsks 0 = .ok (.aload_n 1, 1) := by decide +kernel
theorem dX7_writeAsks_1 : decode cX7_writeAsks 1 = .ok (.getfield 71, 3) := by decide +kernel
theorem dX7_writeAsks_4 : decode cX7_writeAsks 4 = .ok (.invokevirtual 123, 3) := by decide +kernel
theorem dX7_writeAsks_7 : decode cX7_writeAsks 7 = .ok (.ifCond .eq 4, 3) := by decide +kernel
theorem dX7_writeAsks_10 : decode cX7_writeAsks 10 = .ok (.return_, 1) := by decide +kernel
theorem dX7_writeAsks_11 : decode cX7_writeAsks 11 = .ok (.iconst 0, 1) := by decide +kernel
theorem dX7_writeAsks_12 : decode cX7_writeAsks 12 = .ok (.istore_n 2, 1) := by decide +kernel
theorem dX7_writeAsks_13 : decode cX7_writeAsks 13 = .ok (.iload_n 2, 1) := by decide +kernel
theorem dX7_writeAsks_14 : decode cX7_writeAsks 14 = .ok (.bipush 16, 2) := by decide +kernel
theorem dX7_writeAsks_16 : decode cX7_writeAsks 16 = .ok (.if_icmp .ge 56, 3) := by decide +kernel
theorem dX7_writeAsks_19 : decode cX7_writeAsks 19 = .ok (.aload_n 1, 1) := by decide +kernel
theorem dX7_writeAsks_20 : decode cX7_writeAsks 20 = .ok (.getfield 71, 3) := by decide +kernel
theorem dX7_writeAsks_23 : decode cX7_writeAsks 23 = .ok (.iload_n 2, 1) := by decide +kernel
theorem dX7_writeAsks_24 : decode cX7_writeAsks 24 = .ok (.aload_n 0, 1) := by decide +kernel
theorem dX7_writeAsks_25 : decode cX7_writeAsks 25 = .ok (.getfield 62, 3) := by decide +kernel
theorem dX7_writeAsks_28 : decode cX7_writeAsks 28 = .ok (.invokevirtual 301, 3) := by decide +kernel
theorem dX7_writeAsks_31 : decode cX7_writeAsks 31 = .ok (.ifCond .eq 35, 3) := by decide +kernel
theorem dX7_writeAsks_34 : decode cX7_writeAsks 34 = .ok (.aload_n 1, 1) := by decide +kernel
theorem dX7_writeAsks_35 : decode cX7_writeAsks 35 = .ok (.getfield 280, 3) := by decide +kernel
theorem dX7_writeAsks_38 : decode cX7_writeAsks 38 = .ok (.iload_n 2, 1) := by decide +kernel
theorem dX7_writeAsks_39 : decode cX7_writeAsks 39 = .ok (.aload_n 1, 1) := by decide +kernel
theorem dX7_writeAsks_40 : decode cX7_writeAsks 40 = .ok (.getfield 71, 3) := by decide +kernel
theorem dX7_writeAsks_43 : decode cX7_writeAsks 43 = .ok (.getfield 305, 3) := by decide +kernel
theorem dX7_writeAsks_46 : decode cX7_writeAsks 46 = .ok (.iload_n 2, 1) := by decide +kernel
theorem dX7_writeAsks_47 : decode cX7_writeAsks 47 = .ok (.iaload, 1) := by decide +kernel
theorem dX7_writeAsks_48 : decode cX7_writeAsks 48 = .ok (.aload_n 0, 1) := by decide +kernel
theorem dX7_writeAsks_49 : decode cX7_writeAsks 49 = .ok (.aload_n 1, 1) := by decide +kernel
theorem dX7_writeAsks_50 : decode cX7_writeAsks 50 = .ok (.iload_n 2, 1) := by decide +kernel
theorem dX7_writeAsks_51 : decode cX7_writeAsks 51 = .ok (.invokevirtual 306, 3) := by decide +kernel
theorem dX7_writeAsks_54 : decode cX7_writeAsks 54 = .ok (.iconst 0, 1) := by decide +kernel
theorem dX7_writeAsks_55 : decode cX7_writeAsks 55 = .ok (.invokevirtual 310, 3) := by decide +kernel
theorem dX7_writeAsks_58 : decode cX7_writeAsks 58 = .ok (.aload_n 1, 1) := by decide +kernel
theorem dX7_writeAsks_59 : decode cX7_writeAsks 59 = .ok (.getfield 71, 3) := by decide +kernel
theorem dX7_writeAsks_62 : decode cX7_writeAsks 62 = .ok (.iload_n 2, 1) := by decide +kernel
theorem dX7_writeAsks_63 : decode cX7_writeAsks 63 = .ok (.invokevirtual 316, 3) := by decide +kernel
theorem dX7_writeAsks_66 : decode cX7_writeAsks 66 = .ok (.iinc 2 1, 3) := by decide +kernel
theorem dX7_writeAsks_69 : decode cX7_writeAsks 69 = .ok (.goto (-56), 3) := by decide +kernel
theorem dX7_writeAsks_72 : decode cX7_writeAsks 72 = .ok (.return_, 1) := by decide +kernel
theorem dX7_writeClaims_0 : decode cX7_writeClaims 0 = .ok (.iconst 0, 1) := by decide +kernel
theorem dX7_writeClaims_1 : decode cX7_writeClaims 1 = .ok (.istore_n 2, 1) := by decide +kernel
theorem dX7_writeClaims_2 : decode cX7_writeClaims 2 = .ok (.iload_n 2, 1) := by decide +kernel
theorem dX7_writeClaims_3 : decode cX7_writeClaims 3 = .ok (.aload_n 0, 1) := by decide +kernel
theorem dX7_writeClaims_4 : decode cX7_writeClaims 4 = .ok (.getfield 103, 3) := by decide +kernel
theorem dX7_writeClaims_7 : decode cX7_writeClaims 7 = .ok (.if_icmp .ge 62, 3) := by decide +kernel
theorem dX7_writeClaims_10 : decode cX7_writeClaims 10 = .ok (.aload_n 0, 1) := by decide +kernel
theorem dX7_writeClaims_11 : decode cX7_writeClaims 11 = .ok (.getfield 17, 3) := by decide +kernel
theorem dX7_writeClaims_14 : decode cX7_writeClaims 14 = .ok (.iload_n 2, 1) := by decide +kernel
theorem dX7_writeClaims_15 : decode cX7_writeClaims 15 = .ok (.aaload, 1) := by decide +kernel
theorem dX7_writeClaims_16 : decode cX7_writeClaims 16 = .ok (.astore_n 3, 1) := by decide +kernel
theorem dX7_writeClaims_17 : decode cX7_writeClaims 17 = .ok (.aload_n 3, 1) := by decide +kernel
theorem dX7_writeClaims_18 : decode cX7_writeClaims 18 = .ok (.getfield 106, 3) := by decide +kernel
theorem dX7_writeClaims_21 : decode cX7_writeClaims 21 = .ok (.aload_n 1, 1) := by decide +kernel
theorem dX7_writeClaims_22 : decode cX7_writeClaims 22 = .ok (.if_acmp .ne 41, 3) := by decide +kernel
theorem dX7_writeClaims_25 : decode cX7_writeClaims 25 = .ok (.aload_n 3, 1) := by decide +kernel
theorem dX7_writeClaims_26 : decode cX7_writeClaims 26 = .ok (.getfield 59, 3) := by decide +kernel
theorem dX7_writeClaims_29 : decode cX7_writeClaims 29 = .ok (.iconst 1, 1) := by decide +kernel
theorem dX7_writeClaims_30 : decode cX7_writeClaims 30 = .ok (.if_icmp .ne 33, 3) := by decide +kernel
theorem dX7_writeClaims_33 : decode cX7_writeClaims 33 = .ok (.aload_n 3, 1) := by decide +kernel
theorem dX7_writeClaims_34 : decode cX7_writeClaims 34 = .ok (.getfield 203, 3) := by decide +kernel
theorem dX7_writeClaims_37 : decode cX7_writeClaims 37 = .ok (.ifCond .le 26, 3) := by decide +kernel
theorem dX7_writeClaims_40 : decode cX7_writeClaims 40 = .ok (.aload_n 1, 1) := by decide +kernel
theorem dX7_writeClaims_41 : decode cX7_writeClaims 41 = .ok (.getfield 280, 3) := by decide +kernel
theorem dX7_writeClaims_44 : decode cX7_writeClaims 44 = .ok (.iload_n 2, 1) := by decide +kernel
theorem dX7_writeClaims_45 : decode cX7_writeClaims 45 = .ok (.aload_n 3, 1) := by decide +kernel
theorem dX7_writeClaims_46 : decode cX7_writeClaims 46 = .ok (.getfield 201, 3) := by decide +kernel
theorem dX7_writeClaims_49 : decode cX7_writeClaims 49 = .ok (.iconst 0, 1) := by decide +kernel
theorem dX7_writeClaims_50 : decode cX7_writeClaims 50 = .ok (.invokevirtual 319, 3) := by decide +kernel
theorem dX7_writeClaims_53 : decode cX7_writeClaims 53 = .ok (.aload_n 3, 1) := by decide +kernel
theorem dX7_writeClaims_54 : decode cX7_writeClaims 54 = .ok (.dup, 1) := by decide +kernel
theorem dX7_writeClaims_55 : decode cX7_writeClaims 55 = .ok (.getfield 203, 3) := by decide +kernel
theorem dX7_writeClaims_58 : decode cX7_writeClaims 58 = .ok (.iconst 1, 1) := by decide +kernel
theorem dX7_writeClaims_59 : decode cX7_writeClaims 59 = .ok (.isub, 1) := by decide +kernel
theorem dX7_writeClaims_60 : decode cX7_writeClaims 60 = .ok (.putfield 203, 3) := by decide +kernel
theorem dX7_writeClaims_63 : decode cX7_writeClaims 63 = .ok (.iinc 2 1, 3) := by decide +kernel
theorem dX7_writeClaims_66 : decode cX7_writeClaims 66 = .ok (.goto (-64), 3) := by decide +kernel
theorem dX7_writeClaims_69 : decode cX7_writeClaims 69 = .ok (.return_, 1) := by decide +kernel
theorem dX7_writeByes_0 : decode cX7_writeByes 0 = .ok (.iconst 0, 1) := by decide +kernel
theorem dX7_writeByes_1 : decode cX7_writeByes 1 = .ok (.istore_n 2, 1) := by decide +kernel
theorem dX7_writeByes_2 : decode cX7_writeByes 2 = .ok (.iload_n 2, 1) := by decide +kernel
theorem dX7_writeByes_3 : decode cX7_writeByes 3 = .ok (.aload_n 0, 1) := by decide +kernel
theorem dX7_writeByes_4 : decode cX7_writeByes 4 = .ok (.getfield 103, 3) := by decide +kernel
theorem dX7_writeByes_7 : decode cX7_writeByes 7 = .ok (.if_icmp .ge 45, 3) := by decide +kernel
theorem dX7_writeByes_10 : decode cX7_writeByes 10 = .ok (.aload_n 0, 1) := by decide +kernel
theorem dX7_writeByes_11 : decode cX7_writeByes 11 = .ok (.getfield 17, 3) := by decide +kernel
theorem dX7_writeByes_14 : decode cX7_writeByes 14 = .ok (.iload_n 2, 1) := by decide +kernel
theorem dX7_writeByes_15 : decode cX7_writeByes 15 = .ok (.aaload, 1) := by decide +kernel
theorem dX7_writeByes_16 : decode cX7_writeByes 16 = .ok (.astore_n 3, 1) := by decide +kernel
theorem dX7_writeByes_17 : decode cX7_writeByes 17 = .ok (.aload_n 3, 1) := by decide +kernel
theorem dX7_writeByes_18 : decode cX7_writeByes 18 = .ok (.getfield 106, 3) := by decide +kernel
theorem dX7_writeByes_21 : decode cX7_writeByes 21 = .ok (.aload_n 1, 1) := by decide +kernel
theorem dX7_writeByes_22 : decode cX7_writeByes 22 = .ok (.if_acmp .ne 24, 3) := by decide +kernel
theorem dX7_writeByes_25 : decode cX7_writeByes 25 = .ok (.aload_n 3, 1) := by decide +kernel
theorem dX7_writeByes_26 : decode cX7_writeByes 26 = .ok (.getfield 109, 3) := by decide +kernel
theorem dX7_writeByes_29 : decode cX7_writeByes 29 = .ok (.ifCond .eq 17, 3) := by decide +kernel
theorem dX7_writeByes_32 : decode cX7_writeByes 32 = .ok (.aload_n 1, 1) := by decide +kernel
theorem dX7_writeByes_33 : decode cX7_writeByes 33 = .ok (.getfield 280, 3) := by decide +kernel
theorem dX7_writeByes_36 : decode cX7_writeByes 36 = .ok (.iload_n 2, 1) := by decide +kernel
theorem dX7_writeByes_37 : decode cX7_writeByes 37 = .ok (.iconst 0, 1) := by decide +kernel
theorem dX7_writeByes_38 : decode cX7_writeByes 38 = .ok (.invokevirtual 322, 3) := by decide +kernel
theorem dX7_writeByes_41 : decode cX7_writeByes 41 = .ok (.aload_n 3, 1) := by decide +kernel
theorem dX7_writeByes_42 : decode cX7_writeByes 42 = .ok (.iconst 0, 1) := by decide +kernel
theorem dX7_writeByes_43 : decode cX7_writeByes 43 = .ok (.putfield 109, 3) := by decide +kernel
theorem dX7_writeByes_46 : decode cX7_writeByes 46 = .ok (.iinc 2 1, 3) := by decide +kernel
theorem dX7_writeByes_49 : decode cX7_writeByes 49 = .ok (.goto (-47), 3) := by decide +kernel
theorem dX7_writeByes_52 : decode cX7_writeByes 52 = .ok (.return_, 1) := by decide +kernel
theorem dX7_writeTellings_0 : decode cX7_writeTellings 0 = .ok (.iconst 0, 1) := by decide +kernel
theorem dX7_writeTellings_1 : decode cX7_writeTellings 1 = .ok (.istore_n 2, 1) := by decide +kernel
theorem dX7_writeTellings_2 : decode cX7_writeTellings 2 = .ok (.iload_n 2, 1) := by decide +kernel
theorem dX7_writeTellings_3 : decode cX7_writeTellings 3 = .ok (.aload_n 0, 1) := by decide +kernel
theorem dX7_writeTellings_4 : decode cX7_writeTellings 4 = .ok (.getfield 103, 3) := by decide +kernel
theorem dX7_writeTellings_7 : decode cX7_writeTellings 7 = .ok (.if_icmp .ge 90, 3) := by decide +kernel
theorem dX7_writeTellings_10 : decode cX7_writeTellings 10 = .ok (.aload_n 0, 1) := by decide +kernel
theorem dX7_writeTellings_11 : decode cX7_writeTellings 11 = .ok (.getfield 17, 3) := by decide +kernel
theorem dX7_writeTellings_14 : decode cX7_writeTellings 14 = .ok (.iload_n 2, 1) := by decide +kernel
theorem dX7_writeTellings_15 : decode cX7_writeTellings 15 = .ok (.aaload, 1) := by decide +kernel
theorem dX7_writeTellings_16 : decode cX7_writeTellings 16 = .ok (.astore_n 3, 1) := by decide +kernel
theorem dX7_writeTellings_17 : decode cX7_writeTellings 17 = .ok (.aload_n 3, 1) := by decide +kernel
theorem dX7_writeTellings_18 : decode cX7_writeTellings 18 = .ok (.getfield 59, 3) := by decide +kernel
theorem dX7_writeTellings_21 : decode cX7_writeTellings 21 = .ok (.iconst 2, 1) := by decide +kernel
theorem dX7_writeTellings_22 : decode cX7_writeTellings 22 = .ok (.if_icmp .ne 18, 3) := by decide +kernel
theorem dX7_writeTellings_25 : decode cX7_writeTellings 25 = .ok (.aload_n 3, 1) := by decide +kernel
theorem dX7_writeTellings_26 : decode cX7_writeTellings 26 = .ok (.getfield 65, 3) := by decide +kernel
theorem dX7_writeTellings_29 : decode cX7_writeTellings 29 = .ok (.aload_n 0, 1) := by decide +kernel
theorem dX7_writeTellings_30 : decode cX7_writeTellings 30 = .ok (.getfield 62, 3) := by decide +kernel
theorem dX7_writeTellings_33 : decode cX7_writeTellings 33 = .ok (.if_icmp .gt 7, 3) := by decide +kernel
theorem dX7_writeTellings_36 : decode cX7_writeTellings 36 = .ok (.iconst 1, 1) := by decide +kernel
theorem dX7_writeTellings_37 : decode cX7_writeTellings 37 = .ok (.goto 4, 3) := by decide +kernel
theorem dX7_writeTellings_40 : decode cX7_writeTellings 40 = .ok (.iconst 0, 1) := by decide +kernel
theorem dX7_writeTellings_41 : decode cX7_writeTellings 41 = .ok (.istore 4, 2) := by decide +kernel
theorem dX7_writeTellings_43 : decode cX7_writeTellings 43 = .ok (.aload_n 1, 1) := by decide +kernel
theorem dX7_writeTellings_44 : decode cX7_writeTellings 44 = .ok (.getfield 143, 3) := by decide +kernel
theorem dX7_writeTellings_47 : decode cX7_writeTellings 47 = .ok (.iload_n 2, 1) := by decide +kernel
theorem dX7_writeTellings_48 : decode cX7_writeTellings 48 = .ok (.aload_n 0, 1) := by decide +kernel
theorem dX7_writeTellings_49 : decode cX7_writeTellings 49 = .ok (.getfield 62, 3) := by decide +kernel
theorem dX7_writeTellings_52 : decode cX7_writeTellings 52 = .ok (.invokevirtual 325, 3) := by decide +kernel
theorem dX7_writeTellings_55 : decode cX7_writeTellings 55 = .ok (.ifCond .eq 24, 3) := by decide +kernel
theorem dX7_writeTellings_58 : decode cX7_writeTellings 58 = .ok (.aload_n 0, 1) := by decide +kernel
theorem dX7_writeTellings_59 : decode cX7_writeTellings 59 = .ok (.aload_n 1, 1) := by decide +kernel
theorem dX7_writeTellings_60 : decode cX7_writeTellings 60 = .ok (.aload_n 3, 1) := by decide +kernel
theorem dX7_writeTellings_61 : decode cX7_writeTellings 61 = .ok (.aload_n 1, 1) := by decide +kernel
theorem dX7_writeTellings_62 : decode cX7_writeTellings 62 = .ok (.getfield 91, 3) := by decide +kernel
theorem dX7_writeTellings_65 : decode cX7_writeTellings 65 = .ok (.invokevirtual 326, 3) := by decide +kernel
theorem dX7_writeTellings_68 : decode cX7_writeTellings 68 = .ok (.aload_n 1, 1) := by decide +kernel
theorem dX7_writeTellings_69 : decode cX7_writeTellings 69 = .ok (.getfield 143, 3) := by decide +kernel
theorem dX7_writeTellings_72 : decode cX7_writeTellings 72 = .ok (.iload_n 2, 1) := by decide +kernel
theorem dX7_writeTellings_73 : decode cX7_writeTellings 73 = .ok (.invokevirtual 330, 3) := by decide +kernel
theorem dX7_writeTellings_76 : decode cX7_writeTellings 76 = .ok (.goto 15, 3) := by decide +kernel
theorem dX7_writeTellings_79 : decode cX7_writeTellings 79 = .ok (.iload 4, 2) := by decide +kernel
theorem dX7_writeTellings_81 : decode cX7_writeTellings 81 = .ok (.ifCond .eq 10, 3) := by decide +kernel
theorem dX7_writeTellings_84 : decode cX7_writeTellings 84 = .ok (.aload_n 0, 1) := by decide +kernel
theorem dX7_writeTellings_85 : decode cX7_writeTellings 85 = .ok (.aload_n 1, 1) := by decide +kernel
theorem dX7_writeTellings_86 : decode cX7_writeTellings 86 = .ok (.aload_n 3, 1) := by decide +kernel
theorem dX7_writeTellings_87 : decode cX7_writeTellings 87 = .ok (.iconst 0, 1) := by decide +kernel
theorem dX7_writeTellings_88 : decode cX7_writeTellings 88 = .ok (.invokevirtual 326, 3) := by decide +kernel
theorem dX7_writeTellings_91 : decode cX7_writeTellings 91 = .ok (.iinc 2 1, 3) := by decide +kernel
theorem dX7_writeTellings_94 : decode cX7_writeTellings 94 = .ok (.goto (-92), 3) := by decide +kernel
theorem dX7_writeTellings_97 : decode cX7_writeTellings 97 = .ok (.return_, 1) := by decide +kernel
theorem dX7_writeTelling_0 : decode cX7_writeTelling 0 = .ok (.aload_n 2, 1) := by decide +kernel
theorem dX7_writeTelling_1 : decode cX7_writeTelling 1 = .ok (.getfield 264, 3) := by decide +kernel
theorem dX7_writeTelling_4 : decode cX7_writeTelling 4 = .ok (.istore 4, 2) := by decide +kernel
theorem dX7_writeTelling_6 : decode cX7_writeTelling 6 = .ok (.aload_n 0, 1) := by decide +kernel
theorem dX7_writeTelling_7 : decode cX7_writeTelling 7 = .ok (.aload_n 1, 1) := by decide +kernel
theorem dX7_writeTelling_8 : decode cX7_writeTelling 8 = .ok (.aload_n 2, 1) := by decide +kernel
theorem dX7_writeTelling_9 : decode cX7_writeTelling 9 = .ok (.invokevirtual 331, 3) := by decide +kernel
theorem dX7_writeTelling_12 : decode cX7_writeTelling 12 = .ok (.ifCond .eq 51, 3) := by decide +kernel
theorem dX7_writeTelling_15 : decode cX7_writeTelling 15 = .ok (.aload_n 2, 1) := by decide +kernel
theorem dX7_writeTelling_16 : decode cX7_writeTelling 16 = .ok (.getfield 59, 3) := by decide +kernel
theorem dX7_writeTelling_19 : decode cX7_writeTelling 19 = .ok (.iconst 2, 1) := by decide +kernel
theorem dX7_writeTelling_20 : decode cX7_writeTelling 20 = .ok (.if_icmp .ne 113, 3) := by decide +kernel
theorem dX7_writeTelling_23 : decode cX7_writeTelling 23 = .ok (.aload_n 1, 1) := by decide +kernel
theorem dX7_writeTelling_24 : decode cX7_writeTelling 24 = .ok (.getfield 280, 3) := by decide +kernel
theorem dX7_writeTelling_27 : decode cX7_writeTelling 27 = .ok (.iload 4, 2) := by decide +kernel
theorem dX7_writeTelling_29 : decode cX7_writeTelling 29 = .ok (.aload_n 2, 1) := by decide +kernel
theorem dX7_writeTelling_30 : decode cX7_writeTelling 30 = .ok (.getfield 201, 3) := by decide +kernel
theorem dX7_writeTelling_33 : decode cX7_writeTelling 33 = .ok (.aload_n 2, 1) := by decide +kernel
theorem dX7_writeTelling_34 : decode cX7_writeTelling 34 = .ok (.getfield 56, 3) := by decide +kernel
theorem dX7_writeTelling_37 : decode cX7_writeTelling 37 = .ok (.aload_n 2, 1) := by decide +kernel
theorem dX7_writeTelling_38 : decode cX7_writeTelling 38 = .ok (.getfield 335, 3) := by decide +kernel
theorem dX7_writeTelling_41 : decode cX7_writeTelling 41 = .ok (.iconst 0, 1) := by decide +kernel
theorem dX7_writeTelling_42 : decode cX7_writeTelling 42 = .ok (.invokevirtual 337, 3) := by decide +kernel
theorem dX7_writeTelling_45 : decode cX7_writeTelling 45 = .ok (.aload_n 2, 1) := by decide +kernel
theorem dX7_writeTelling_46 : decode cX7_writeTelling 46 = .ok (.aload_n 0, 1) := by decide +kernel
theorem dX7_writeTelling_47 : decode cX7_writeTelling 47 = .ok (.getfield 62, 3) := by decide +kernel
theorem dX7_writeTelling_50 : decode cX7_writeTelling 50 = .ok (.aload_n 2, 1) := by decide +kernel
theorem dX7_writeTelling_51 : decode cX7_writeTelling 51 = .ok (.getfield 335, 3) := by decide +kernel
theorem dX7_writeTelling_54 : decode cX7_writeTelling 54 = .ok (.iconst 2, 1) := by decide +kernel
theorem dX7_writeTelling_55 : decode cX7_writeTelling 55 = .ok (.idiv, 1) := by decide +kernel
theorem dX7_writeTelling_56 : decode cX7_writeTelling 56 = .ok (.iadd, 1) := by decide +kernel
theorem dX7_writeTelling_57 : decode cX7_writeTelling 57 = .ok (.putfield 65, 3) := by decide +kernel
theorem dX7_writeTelling_60 : decode cX7_writeTelling 60 = .ok (.goto 73, 3) := by decide +kernel
theorem dX7_writeTelling_63 : decode cX7_writeTelling 63 = .ok (.iload_n 3, 1) := by decide +kernel
theorem dX7_writeTelling_64 : decode cX7_writeTelling 64 = .ok (.ifCond .eq 69, 3) := by decide +kernel
theorem dX7_writeTelling_67 : decode cX7_writeTelling 67 = .ok (.aload_n 1, 1) := by decide +kernel
theorem dX7_writeTelling_68 : decode cX7_writeTelling 68 = .ok (.getfield 134, 3) := by decide +kernel
theorem dX7_writeTelling_71 : decode cX7_writeTelling 71 = .ok (.iload 4, 2) := by decide +kernel
theorem dX7_writeTelling_73 : decode cX7_writeTelling 73 = .ok (.invokevirtual 191, 3) := by decide +kernel
theorem dX7_writeTelling_76 : decode cX7_writeTelling 76 = .ok (.ifCond .eq 57, 3) := by decide +kernel
theorem dX7_writeTelling_79 : decode cX7_writeTelling 79 = .ok (.aload_n 1, 1) := by decide +kernel
theorem dX7_writeTelling_80 : decode cX7_writeTelling 80 = .ok (.getfield 134, 3) := by decide +kernel
theorem dX7_writeTelling_83 : decode cX7_writeTelling 83 = .ok (.iload 4, 2) := by decide +kernel
theorem dX7_writeTelling_85 : decode cX7_writeTelling 85 = .ok (.aload_n 0, 1) := by decide +kernel
theorem dX7_writeTelling_86 : decode cX7_writeTelling 86 = .ok (.getfield 62, 3) := by decide +kernel
theorem dX7_writeTelling_89 : decode cX7_writeTelling 89 = .ok (.invokevirtual 194, 3) := by decide +kernel
theorem dX7_writeTelling_92 : decode cX7_writeTelling 92 = .ok (.iconst 1, 1) := by decide +kernel
theorem dX7_writeTelling_93 : decode cX7_writeTelling 93 = .ok (.isub, 1) := by decide +kernel
theorem dX7_writeTelling_94 : decode cX7_writeTelling 94 = .ok (.istore 5, 2) := by decide +kernel
theorem dX7_writeTelling_96 : decode cX7_writeTelling 96 = .ok (.iload 5, 2) := by decide +kernel
theorem dX7_writeTelling_98 : decode cX7_writeTelling 98 = .ok (.ifCond .le 35, 3) := by decide +kernel
theorem dX7_writeTelling_101 : decode cX7_writeTelling 101 = .ok (.aload_n 1, 1) := by decide +kernel
theorem dX7_writeTelling_102 : decode cX7_writeTelling 102 = .ok (.getfield 280, 3) := by decide +kernel
theorem dX7_writeTelling_105 : decode cX7_writeTelling 105 = .ok (.iload 4, 2) := by decide +kernel
theorem dX7_writeTelling_107 : decode cX7_writeTelling 107 = .ok (.aload_n 1, 1) := by decide +kernel
theorem dX7_writeTelling_108 : decode cX7_writeTelling 108 = .ok (.getfield 134, 3) := by decide +kernel
theorem dX7_writeTelling_111 : decode cX7_writeTelling 111 = .ok (.getfield 184, 3) := by decide +kernel
theorem dX7_writeTelling_114 : decode cX7_writeTelling 114 = .ok (.iload 4, 2) := by decide +kernel
theorem dX7_writeTelling_116 : decode cX7_writeTelling 116 = .ok (.iaload, 1) := by decide +kernel
theorem dX7_writeTelling_117 : decode cX7_writeTelling 117 = .ok (.aload_n 1, 1) := by decide +kernel
theorem dX7_writeTelling_118 : decode cX7_writeTelling 118 = .ok (.getfield 134, 3) := by decide +kernel
theorem dX7_writeTelling_121 : decode cX7_writeTelling 121 = .ok (.getfield 192, 3) := by decide +kernel
theorem dX7_writeTelling_124 : decode cX7_writeTelling 124 = .ok (.iload 4, 2) := by decide +kernel
theorem dX7_writeTelling_126 : decode cX7_writeTelling 126 = .ok (.iaload, 1) := by decide +kernel
theorem dX7_writeTelling_127 : decode cX7_writeTelling 127 = .ok (.iload 5, 2) := by decide +kernel
theorem dX7_writeTelling_129 : decode cX7_writeTelling 129 = .ok (.iconst 0, 1) := by decide +kernel
theorem dX7_writeTelling_130 : decode cX7_writeTelling 130 = .ok (.invokevirtual 337, 3) := by decide +kernel
theorem dX7_writeTelling_133 : decode cX7_writeTelling 133 = .ok (.return_, 1) := by decide +kernel
theorem dX7_writeCarried_0 : decode cX7_writeCarried 0 = .ok (.aload_n 1, 1) := by decide +kernel
theorem dX7_writeCarried_1 : decode cX7_writeCarried 1 = .ok (.getfield 88, 3) := by decide +kernel
theorem dX7_writeCarried_4 : decode cX7_writeCarried 4 = .ok (.aload_n 2, 1) := by decide +kernel
theorem dX7_writeCarried_5 : decode cX7_writeCarried 5 = .ok (.getfield 209, 3) := by decide +kernel
theorem dX7_writeCarried_8 : decode cX7_writeCarried 8 = .ok (.if_icmp .ne 4, 3) := by decide +kernel
theorem dX7_writeCarried_11 : decode cX7_writeCarried 11 = .ok (.return_, 1) := by decide +kernel
theorem dX7_writeCarried_12 : decode cX7_writeCarried 12 = .ok (.aload_n 1, 1) := by decide +kernel
theorem dX7_writeCarried_13 : decode cX7_writeCarried 13 = .ok (.getfield 280, 3) := by decide +kernel
theorem dX7_writeCarried_16 : decode cX7_writeCarried 16 = .ok (.astore_n 3, 1) := by decide +kernel
theorem dX7_writeCarried_17 : decode cX7_writeCarried 17 = .ok (.aload_n 1, 1) := by decide +kernel
theorem dX7_writeCarried_18 : decode cX7_writeCarried 18 = .ok (.aload_n 2, 1) := by decide +kernel
theorem dX7_writeCarried_19 : decode cX7_writeCarried 19 = .ok (.getfield 340, 3) := by decide +kernel
theorem dX7_writeCarried_22 : decode cX7_writeCarried 22 = .ok (.putfield 280, 3) := by decide +kernel
theorem dX7_writeCarried_25 : decode cX7_writeCarried 25 = .ok (.aload_n 2, 1) := by decide +kernel
theorem dX7_writeCarried_26 : decode cX7_writeCarried 26 = .ok (.aload_n 3, 1) := by decide +kernel
theorem dX7_writeCarried_27 : decode cX7_writeCarried 27 = .ok (.putfield 340, 3) := by decide +kernel
theorem dX7_writeCarried_30 : decode cX7_writeCarried 30 = .ok (.aload_n 2, 1) := by decide +kernel
theorem dX7_writeCarried_31 : decode cX7_writeCarried 31 = .ok (.getfield 343, 3) := by decide +kernel
theorem dX7_writeCarried_34 : decode cX7_writeCarried 34 = .ok (.astore_n 3, 1) := by decide +kernel
theorem dX7_writeCarried_35 : decode cX7_writeCarried 35 = .ok (.aload_n 2, 1) := by decide +kernel
theorem dX7_writeCarried_36 : decode cX7_writeCarried 36 = .ok (.aload_n 2, 1) := by decide +kernel
theorem dX7_writeCarried_37 : decode cX7_writeCarried 37 = .ok (.getfield 344, 3) := by decide +kernel
theorem dX7_writeCarried_40 : decode cX7_writeCarried 40 = .ok (.putfield 343, 3) := by decide +kernel
theorem dX7_writeCarried_43 : decode cX7_writeCarried 43 = .ok (.aload_n 2, 1) := by decide +kernel
theorem dX7_writeCarried_44 : decode cX7_writeCarried 44 = .ok (.aload_n 3, 1) := by decide +kernel
theorem dX7_writeCarried_45 : decode cX7_writeCarried 45 = .ok (.putfield 344, 3) := by decide +kernel
theorem dX7_writeCarried_48 : decode cX7_writeCarried 48 = .ok (.aload_n 0, 1) := by decide +kernel
theorem dX7_writeCarried_49 : decode cX7_writeCarried 49 = .ok (.aload_n 1, 1) := by decide +kernel
theorem dX7_writeCarried_50 : decode cX7_writeCarried 50 = .ok (.aload_n 1, 1) := by decide +kernel
theorem dX7_writeCarried_51 : decode cX7_writeCarried 51 = .ok (.getfield 280, 3) := by decide +kernel
theorem dX7_writeCarried_54 : decode cX7_writeCarried 54 = .ok (.aload_n 1, 1) := by decide +kernel
theorem dX7_writeCarried_55 : decode cX7_writeCarried 55 = .ok (.getfield 88, 3) := by decide +kernel
theorem dX7_writeCarried_58 : decode cX7_writeCarried 58 = .ok (.invokevirtual 284, 3) := by decide +kernel
theorem dX7_writeCarried_61 : decode cX7_writeCarried 61 = .ok (.aload_n 0, 1) := by decide +kernel
theorem dX7_writeCarried_62 : decode cX7_writeCarried 62 = .ok (.aload_n 1, 1) := by decide +kernel
theorem dX7_writeCarried_63 : decode cX7_writeCarried 63 = .ok (.aload_n 2, 1) := by decide +kernel
theorem dX7_writeCarried_64 : decode cX7_writeCarried 64 = .ok (.getfield 343, 3) := by decide +kernel
theorem dX7_writeCarried_67 : decode cX7_writeCarried 67 = .ok (.aload_n 2, 1) := by decide +kernel
theorem dX7_writeCarried_68 : decode cX7_writeCarried 68 = .ok (.getfield 209, 3) := by decide +kernel
theorem dX7_writeCarried_71 : decode cX7_writeCarried 71 = .ok (.invokevirtual 284, 3) := by decide +kernel
theorem dX7_writeCarried_74 : decode cX7_writeCarried 74 = .ok (.return_, 1) := by decide +kernel
theorem dX7_post_0 : decode cX7_post 0 = .ok (.aload_n 2, 1) := by decide +kernel
theorem dX7_post_1 : decode cX7_post 1 = .ok (.invokevirtual 347, 3) := by decide +kernel
theorem dX7_post_4 : decode cX7_post 4 = .ok (.ifCond .eq 4, 3) := by decide +kernel
theorem dX7_post_7 : decode cX7_post 7 = .ok (.return_, 1) := by decide +kernel
theorem dX7_post_8 : decode cX7_post 8 = .ok (.aload_n 2, 1) := by decide +kernel
theorem dX7_post_9 : decode cX7_post 9 = .ok (.iload_n 3, 1) := by decide +kernel
theorem dX7_post_10 : decode cX7_post 10 = .ok (.putfield 348, 3) := by decide +kernel
theorem dX7_post_13 : decode cX7_post 13 = .ok (.aload_n 1, 1) := by decide +kernel
theorem dX7_post_14 : decode cX7_post 14 = .ok (.dup, 1) := by decide +kernel
theorem dX7_post_15 : decode cX7_post 15 = .ok (.getfield 213, 3) := by decide +kernel
theorem dX7_post_18 : decode cX7_post 18 = .ok (.iconst 1, 1) := by decide +kernel
theorem dX7_post_19 : decode cX7_post 19 = .ok (.iadd, 1) := by decide +kernel
theorem dX7_post_20 : decode cX7_post 20 = .ok (.putfield 213, 3) := by decide +kernel
theorem dX7_post_23 : decode cX7_post 23 = .ok (.aload_n 0, 1) := by decide +kernel
theorem dX7_post_24 : decode cX7_post 24 = .ok (.dup, 1) := by decide +kernel
theorem dX7_post_25 : decode cX7_post 25 = .ok (.getfield 226, 3) := by decide +kernel
theorem dX7_post_28 : decode cX7_post 28 = .ok (.iconst 1, 1) := by decide +kernel
theorem dX7_post_29 : decode cX7_post 29 = .ok (.iadd, 1) := by decide +kernel
theorem dX7_post_30 : decode cX7_post 30 = .ok (.putfield 226, 3) := by decide +kernel
theorem dX7_post_33 : decode cX7_post 33 = .ok (.aload_n 0, 1) := by decide +kernel
theorem dX7_post_34 : decode cX7_post 34 = .ok (.dup, 1) := by decide +kernel
theorem dX7_post_35 : decode cX7_post 35 = .ok (.getfield 244, 3) := by decide +kernel
theorem dX7_post_38 : decode cX7_post 38 = .ok (.iconst 1, 1) := by decide +kernel
theorem dX7_post_39 : decode cX7_post 39 = .ok (.iadd, 1) := by decide +kernel
theorem dX7_post_40 : decode cX7_post 40 = .ok (.putfield 244, 3) := by decide +kernel
theorem dX7_post_43 : decode cX7_post 43 = .ok (.return_, 1) := by decide +kernel
theorem dX7_hearLetters_0 : decode cX7_hearLetters 0 = .ok (.iconst 0, 1) := by decide +kernel
theorem dX7_hearLetters_1 : decode cX7_hearLetters 1 = .ok (.istore_n 1, 1) := by decide +kernel
theorem dX7_hearLetters_2 : decode cX7_hearLetters 2 = .ok (.iload_n 1, 1) := by decide +kernel
theorem dX7_hearLetters_3 : decode cX7_hearLetters 3 = .ok (.aload_n 0, 1) := by decide +kernel
theorem dX7_hearLetters_4 : decode cX7_hearLetters 4 = .ok (.getfield 25, 3) := by decide +kernel
theorem dX7_hearLetters_7 : decode cX7_hearLetters 7 = .ok (.if_icmp .ge 44, 3) := by decide +kernel
theorem dX7_hearLetters_10 : decode cX7_hearLetters 10 = .ok (.aload_n 0, 1) := by decide +kernel
theorem dX7_hearLetters_11 : decode cX7_hearLetters 11 = .ok (.getfield 11, 3) := by decide +kernel
theorem dX7_hearLetters_14 : decode cX7_hearLetters 14 = .ok (.iload_n 1, 1) := by decide +kernel
theorem dX7_hearLetters_15 : decode cX7_hearLetters 15 = .ok (.aaload, 1) := by decide +kernel
theorem dX7_hearLetters_16 : decode cX7_hearLetters 16 = .ok (.astore_n 2, 1) := by decide +kernel
theorem dX7_hearLetters_17 : decode cX7_hearLetters 17 = .ok (.aload_n 0, 1) := by decide +kernel
theorem dX7_hearLetters_18 : decode cX7_hearLetters 18 = .ok (.aload_n 2, 1) := by decide +kernel
theorem dX7_hearLetters_19 : decode cX7_hearLetters 19 = .ok (.aload_n 2, 1) := by decide +kernel
theorem dX7_hearLetters_20 : decode cX7_hearLetters 20 = .ok (.getfield 280, 3) := by decide +kernel
theorem dX7_hearLetters_23 : decode cX7_hearLetters 23 = .ok (.invokevirtual 349, 3) := by decide +kernel
theorem dX7_hearLetters_26 : decode cX7_hearLetters 26 = .ok (.aload_n 2, 1) := by decide +kernel
theorem dX7_hearLetters_27 : decode cX7_hearLetters 27 = .ok (.getfield 155, 3) := by decide +kernel
theorem dX7_hearLetters_30 : decode cX7_hearLetters 30 = .ok (.ifnull 15, 3) := by decide +kernel
theorem dX7_hearLetters_33 : decode cX7_hearLetters 33 = .ok (.aload_n 0, 1) := by decide +kernel
theorem dX7_hearLetters_34 : decode cX7_hearLetters 34 = .ok (.aload_n 2, 1) := by decide +kernel
theorem dX7_hearLetters_35 : decode cX7_hearLetters 35 = .ok (.aload_n 2, 1) := by decide +kernel
theorem dX7_hearLetters_36 : decode cX7_hearLetters 36 = .ok (.getfield 155, 3) := by decide +kernel
theorem dX7_hearLetters_39 : decode cX7_hearLetters 39 = .ok (.getfield 343, 3) := by decide +kernel
theorem dX7_hearLetters_42 : decode cX7_hearLetters 42 = .ok (.invokevirtual 349, 3) := by decide +kernel
theorem dX7_hearLetters_45 : decode cX7_hearLetters 45 = .ok (.iinc 1 1, 3) := by decide +kernel
theorem dX7_hearLetters_48 : decode cX7_hearLetters 48 = .ok (.goto (-46), 3) := by decide +kernel
theorem dX7_hearLetters_51 : decode cX7_hearLetters 51 = .ok (.return_, 1) := by decide +kernel
theorem dX7_sendOut_0 : decode cX7_sendOut 0 = .ok (.aload_n 2, 1) := by decide +kernel
theorem dX7_sendOut_1 : decode cX7_sendOut 1 = .ok (.invokevirtual 347, 3) := by decide +kernel
theorem dX7_sendOut_4 : decode cX7_sendOut 4 = .ok (.ifCond .eq 4, 3) := by decide +kernel
theorem dX7_sendOut_7 : decode cX7_sendOut 7 = .ok (.return_, 1) := by decide +kernel
theorem dX7_sendOut_8 : decode cX7_sendOut 8 = .ok (.aload_n 1, 1) := by decide +kernel
theorem dX7_sendOut_9 : decode cX7_sendOut 9 = .ok (.getfield 159, 3) := by decide +kernel
theorem dX7_sendOut_12 : decode cX7_sendOut 12 = .ok (.ifCond .le 24, 3) := by decide +kernel
theorem dX7_sendOut_15 : decode cX7_sendOut 15 = .ok (.aload_n 1, 1) := by decide +kernel
theorem dX7_sendOut_16 : decode cX7_sendOut 16 = .ok (.dup, 1) := by decide +kernel
theorem dX7_sendOut_17 : decode cX7_sendOut 17 = .ok (.getfield 159, 3) := by decide +kernel
theorem dX7_sendOut_20 : decode cX7_sendOut 20 = .ok (.iconst 1, 1) := by decide +kernel
theorem dX7_sendOut_21 : decode cX7_sendOut 21 = .ok (.isub, 1) := by decide +kernel
theorem dX7_sendOut_22 : decode cX7_sendOut 22 = .ok (.putfield 159, 3) := by decide +kernel
theorem dX7_sendOut_25 : decode cX7_sendOut 25 = .ok (.aload_n 0, 1) := by decide +kernel
theorem dX7_sendOut_26 : decode cX7_sendOut 26 = .ok (.dup, 1) := by decide +kernel
theorem dX7_sendOut_27 : decode cX7_sendOut 27 = .ok (.getfield 229, 3) := by decide +kernel
theorem dX7_sendOut_30 : decode cX7_sendOut 30 = .ok (.iconst 1, 1) := by decide +kernel
theorem dX7_sendOut_31 : decode cX7_sendOut 31 = .ok (.iadd, 1) := by decide +kernel
theorem dX7_sendOut_32 : decode cX7_sendOut 32 = .ok (.putfield 229, 3) := by decide +kernel
theorem dX7_sendOut_35 : decode cX7_sendOut 35 = .ok (.return_, 1) := by decide +kernel
theorem dX7_sendOut_36 : decode cX7_sendOut 36 = .ok (.iconst 0, 1) := by decide +kernel
theorem dX7_sendOut_37 : decode cX7_sendOut 37 = .ok (.istore_n 3, 1) := by decide +kernel
theorem dX7_sendOut_38 : decode cX7_sendOut 38 = .ok (.iload_n 3, 1) := by decide +kernel
theorem dX7_sendOut_39 : decode cX7_sendOut 39 = .ok (.aload_n 0, 1) := by decide +kernel
theorem dX7_sendOut_40 : decode cX7_sendOut 40 = .ok (.getfield 25, 3) := by decide +kernel
theorem dX7_sendOut_43 : decode cX7_sendOut 43 = .ok (.if_icmp .ge 97, 3) := by decide +kernel
theorem dX7_sendOut_46 : decode cX7_sendOut 46 = .ok (.aload_n 0, 1) := by decide +kernel
theorem dX7_sendOut_47 : decode cX7_sendOut 47 = .ok (.getfield 11, 3) := by decide +kernel
theorem dX7_sendOut_50 : decode cX7_sendOut 50 = .ok (.iload_n 3, 1) := by decide +kernel
theorem dX7_sendOut_51 : decode cX7_sendOut 51 = .ok (.aaload, 1) := by decide +kernel
theorem dX7_sendOut_52 : decode cX7_sendOut 52 = .ok (.astore 4, 2) := by decide +kernel
theorem dX7_sendOut_54 : decode cX7_sendOut 54 = .ok (.aload 4, 2) := by decide +kernel
theorem dX7_sendOut_56 : decode cX7_sendOut 56 = .ok (.aload_n 1, 1) := by decide +kernel
theorem dX7_sendOut_57 : decode cX7_sendOut 57 = .ok (.if_acmp .eq 77, 3) := by decide +kernel
theorem dX7_sendOut_60 : decode cX7_sendOut 60 = .ok (.aload 4, 2) := by decide +kernel
theorem dX7_sendOut_62 : decode cX7_sendOut 62 = .ok (.getfield 95, 3) := by decide +kernel
theorem dX7_sendOut_65 : decode cX7_sendOut 65 = .ok (.iconst 2, 1) := by decide +kernel
theorem dX7_sendOut_66 : decode cX7_sendOut 66 = .ok (.if_icmp .ne 68, 3) := by decide +kernel
theorem dX7_sendOut_69 : decode cX7_sendOut 69 = .ok (.aload 4, 2) := by decide +kernel
theorem dX7_sendOut_71 : decode cX7_sendOut 71 = .ok (.aload_n 2, 1) := by decide +kernel
theorem dX7_sendOut_72 : decode cX7_sendOut 72 = .ok (.getfield 348, 3) := by decide +kernel
theorem dX7_sendOut_75 : decode cX7_sendOut 75 = .ok (.invokevirtual 353, 3) := by decide +kernel
theorem dX7_sendOut_78 : decode cX7_sendOut 78 = .ok (.ifCond .eq 56, 3) := by decide +kernel
theorem dX7_sendOut_81 : decode cX7_sendOut 81 = .ok (.aload 4, 2) := by decide +kernel
theorem dX7_sendOut_83 : decode cX7_sendOut 83 = .ok (.getfield 162, 3) := by decide +kernel
theorem dX7_sendOut_86 : decode cX7_sendOut 86 = .ok (.ifCond .le 17, 3) := by decide +kernel
theorem dX7_sendOut_89 : decode cX7_sendOut 89 = .ok (.aload 4, 2) := by decide +kernel
theorem dX7_sendOut_91 : decode cX7_sendOut 91 = .ok (.dup, 1) := by decide +kernel
theorem dX7_sendOut_92 : decode cX7_sendOut 92 = .ok (.getfield 162, 3) := by decide +kernel
theorem dX7_sendOut_95 : decode cX7_sendOut 95 = .ok (.iconst 1, 1) := by decide +kernel
theorem dX7_sendOut_96 : decode cX7_sendOut 96 = .ok (.isub, 1) := by decide +kernel
theorem dX7_sendOut_97 : decode cX7_sendOut 97 = .ok (.putfield 162, 3) := by decide +kernel
theorem dX7_sendOut_100 : decode cX7_sendOut 100 = .ok (.goto 34, 3) := by decide +kernel
theorem dX7_sendOut_103 : decode cX7_sendOut 103 = .ok (.aload 4, 2) := by decide +kernel
theorem dX7_sendOut_105 : decode cX7_sendOut 105 = .ok (.getfield 155, 3) := by decide +kernel
theorem dX7_sendOut_108 : decode cX7_sendOut 108 = .ok (.ifnull 18, 3) := by decide +kernel
theorem dX7_sendOut_111 : decode cX7_sendOut 111 = .ok (.aload_n 0, 1) := by decide +kernel
theorem dX7_sendOut_112 : decode cX7_sendOut 112 = .ok (.aload 4, 2) := by decide +kernel
theorem dX7_sendOut_114 : decode cX7_sendOut 114 = .ok (.aload 4, 2) := by decide +kernel
theorem dX7_sendOut_116 : decode cX7_sendOut 116 = .ok (.getfield 155, 3) := by decide +kernel
theorem dX7_sendOut_119 : decode cX7_sendOut 119 = .ok (.aload_n 2, 1) := by decide +kernel
theorem dX7_sendOut_120 : decode cX7_sendOut 120 = .ok (.invokevirtual 356, 3) := by decide +kernel
theorem dX7_sendOut_123 : decode cX7_sendOut 123 = .ok (.goto 11, 3) := by decide +kernel
theorem dX7_sendOut_126 : decode cX7_sendOut 126 = .ok (.aload_n 0, 1) := by decide +kernel
theorem dX7_sendOut_127 : decode cX7_sendOut 127 = .ok (.aload 4, 2) := by decide +kernel
theorem dX7_sendOut_129 : decode cX7_sendOut 129 = .ok (.aload_n 1, 1) := by decide +kernel
theorem dX7_sendOut_130 : decode cX7_sendOut 130 = .ok (.aload_n 2, 1) := by decide +kernel
theorem dX7_sendOut_131 : decode cX7_sendOut 131 = .ok (.invokevirtual 360, 3) := by decide +kernel
theorem dX7_sendOut_134 : decode cX7_sendOut 134 = .ok (.iinc 3 1, 3) := by decide +kernel
theorem dX7_sendOut_137 : decode cX7_sendOut 137 = .ok (.goto (-99), 3) := by decide +kernel
theorem dX7_sendOut_140 : decode cX7_sendOut 140 = .ok (.return_, 1) := by decide +kernel
theorem dX7_takeUp_0 : decode cX7_takeUp 0 = .ok (.aload_n 3, 1) := by decide +kernel
theorem dX7_takeUp_1 : decode cX7_takeUp 1 = .ok (.getfield 348, 3) := by decide +kernel
theorem dX7_takeUp_4 : decode cX7_takeUp 4 = .ok (.aload_n 1, 1) := by decide +kernel
theorem dX7_takeUp_5 : decode cX7_takeUp 5 = .ok (.getfield 88, 3) := by decide +kernel
theorem dX7_takeUp_8 : decode cX7_takeUp 8 = .ok (.if_icmp .ne 7, 3) := by decide +kernel
theorem dX7_takeUp_11 : decode cX7_takeUp 11 = .ok (.iconst 1, 1) := by decide +kernel
theorem dX7_takeUp_12 : decode cX7_takeUp 12 = .ok (.goto 4, 3) := by decide +kernel
theorem dX7_takeUp_15 : decode cX7_takeUp 15 = .ok (.iconst 0, 1) := by decide +kernel
theorem dX7_takeUp_16 : decode cX7_takeUp 16 = .ok (.istore 4, 2) := by decide +kernel
theorem dX7_takeUp_18 : decode cX7_takeUp 18 = .ok (.iload 4, 2) := by decide +kernel
theorem dX7_takeUp_20 : decode cX7_takeUp 20 = .ok (.ifCond .eq 10, 3) := by decide +kernel
theorem dX7_takeUp_23 : decode cX7_takeUp 23 = .ok (.aload_n 2, 1) := by decide +kernel
theorem dX7_takeUp_24 : decode cX7_takeUp 24 = .ok (.getfield 344, 3) := by decide +kernel
theorem dX7_takeUp_27 : decode cX7_takeUp 27 = .ok (.goto 7, 3) := by decide +kernel
theorem dX7_takeUp_30 : decode cX7_takeUp 30 = .ok (.aload_n 2, 1) := by decide +kernel
theorem dX7_takeUp_31 : decode cX7_takeUp 31 = .ok (.getfield 340, 3) := by decide +kernel
theorem dX7_takeUp_34 : decode cX7_takeUp 34 = .ok (.astore 5, 2) := by decide +kernel
theorem dX7_takeUp_36 : decode cX7_takeUp 36 = .ok (.iload 4, 2) := by decide +kernel
theorem dX7_takeUp_38 : decode cX7_takeUp 38 = .ok (.ifCond .eq 10, 3) := by decide +kernel
theorem dX7_takeUp_41 : decode cX7_takeUp 41 = .ok (.aload_n 2, 1) := by decide +kernel
theorem dX7_takeUp_42 : decode cX7_takeUp 42 = .ok (.getfield 209, 3) := by decide +kernel
theorem dX7_takeUp_45 : decode cX7_takeUp 45 = .ok (.goto 7, 3) := by decide +kernel
theorem dX7_takeUp_48 : decode cX7_takeUp 48 = .ok (.aload_n 1, 1) := by decide +kernel
theorem dX7_takeUp_49 : decode cX7_takeUp 49 = .ok (.getfield 88, 3) := by decide +kernel
theorem dX7_takeUp_52 : decode cX7_takeUp 52 = .ok (.istore 6, 2) := by decide +kernel
theorem dX7_takeUp_54 : decode cX7_takeUp 54 = .ok (.aload 5, 2) := by decide +kernel
theorem dX7_takeUp_56 : decode cX7_takeUp 56 = .ok (.invokevirtual 364, 3) := by decide +kernel
theorem dX7_takeUp_59 : decode cX7_takeUp 59 = .ok (.istore 7, 2) := by decide +kernel
theorem dX7_takeUp_61 : decode cX7_takeUp 61 = .ok (.aload_n 3, 1) := by decide +kernel
theorem dX7_takeUp_62 : decode cX7_takeUp 62 = .ok (.getfield 365, 3) := by decide +kernel
theorem dX7_takeUp_65 : decode cX7_takeUp 65 = .ok (.aload_n 3, 1) := by decide +kernel
theorem dX7_takeUp_66 : decode cX7_takeUp 66 = .ok (.getfield 366, 3) := by decide +kernel
theorem dX7_takeUp_69 : decode cX7_takeUp 69 = .ok (.ior, 1) := by decide +kernel
theorem dX7_takeUp_70 : decode cX7_takeUp 70 = .ok (.aload_n 3, 1) := by decide +kernel
theorem dX7_takeUp_71 : decode cX7_takeUp 71 = .ok (.getfield 369, 3) := by decide +kernel
theorem dX7_takeUp_74 : decode cX7_takeUp 74 = .ok (.ior, 1) := by decide +kernel
theorem dX7_takeUp_75 : decode cX7_takeUp 75 = .ok (.istore 8, 2) := by decide +kernel
theorem dX7_takeUp_77 : decode cX7_takeUp 77 = .ok (.iconst 0, 1) := by decide +kernel
theorem dX7_takeUp_78 : decode cX7_takeUp 78 = .ok (.istore 9, 2) := by decide +kernel
theorem dX7_takeUp_80 : decode cX7_takeUp 80 = .ok (.iload 9, 2) := by decide +kernel
theorem dX7_takeUp_82 : decode cX7_takeUp 82 = .ok (.bipush 16, 2) := by decide +kernel
theorem dX7_takeUp_84 : decode cX7_takeUp 84 = .ok (.if_icmp .ge 35, 3) := by decide +kernel
theorem dX7_takeUp_87 : decode cX7_takeUp 87 = .ok (.aload_n 3, 1) := by decide +kernel
theorem dX7_takeUp_88 : decode cX7_takeUp 88 = .ok (.getfield 372, 3) := by decide +kernel
theorem dX7_takeUp_91 : decode cX7_takeUp 91 = .ok (.ifCond .eq 28, 3) := by decide +kernel
theorem dX7_takeUp_94 : decode cX7_takeUp 94 = .ok (.aload_n 2, 1) := by decide +kernel
theorem dX7_takeUp_95 : decode cX7_takeUp 95 = .ok (.iload 9, 2) := by decide +kernel
theorem dX7_takeUp_97 : decode cX7_takeUp 97 = .ok (.invokevirtual 374, 3) := by decide +kernel
theorem dX7_takeUp_100 : decode cX7_takeUp 100 = .ok (.ifCond .eq 13, 3) := by decide +kernel
theorem dX7_takeUp_103 : decode cX7_takeUp 103 = .ok (.aload 5, 2) := by decide +kernel
theorem dX7_takeUp_105 : decode cX7_takeUp 105 = .ok (.aload_n 3, 1) := by decide +kernel
theorem dX7_takeUp_106 : decode cX7_takeUp 106 = .ok (.iload 9, 2) := by decide +kernel
theorem dX7_takeUp_108 : decode cX7_takeUp 108 = .ok (.iload 6, 2) := by decide +kernel
theorem dX7_takeUp_110 : decode cX7_takeUp 110 = .ok (.invokevirtual 377, 3) := by decide +kernel
theorem dX7_takeUp_113 : decode cX7_takeUp 113 = .ok (.iinc 9 1, 3) := by decide +kernel
theorem dX7_takeUp_116 : decode cX7_takeUp 116 = .ok (.goto (-36), 3) := by decide +kernel
theorem dX7_takeUp_119 : decode cX7_takeUp 119 = .ok (.iconst 0, 1) := by decide +kernel
theorem dX7_takeUp_120 : decode cX7_takeUp 120 = .ok (.istore 9, 2) := by decide +kernel
theorem dX7_takeUp_122 : decode cX7_takeUp 122 = .ok (.iload 9, 2) := by decide +kernel
theorem dX7_takeUp_124 : decode cX7_takeUp 124 = .ok (.aload_n 0, 1) := by decide +kernel
theorem dX7_takeUp_125 : decode cX7_takeUp 125 = .ok (.getfield 103, 3) := by decide +kernel
theorem dX7_takeUp_128 : decode cX7_takeUp 128 = .ok (.if_icmp .ge 66, 3) := by decide +kernel
theorem dX7_takeUp_131 : decode cX7_takeUp 131 = .ok (.iload 8, 2) := by decide +kernel
theorem dX7_takeUp_133 : decode cX7_takeUp 133 = .ok (.iload 9, 2) := by decide +kernel
theorem dX7_takeUp_135 : decode cX7_takeUp 135 = .ok (.invokestatic 381, 3) := by decide +kernel
theorem dX7_takeUp_138 : decode cX7_takeUp 138 = .ok (.ifCond .eq 50, 3) := by decide +kernel
theorem dX7_takeUp_141 : decode cX7_takeUp 141 = .ok (.aload_n 2, 1) := by decide +kernel
theorem dX7_takeUp_142 : decode cX7_takeUp 142 = .ok (.aload_n 0, 1) := by decide +kernel
theorem dX7_takeUp_143 : decode cX7_takeUp 143 = .ok (.getfield 17, 3) := by decide +kernel
theorem dX7_takeUp_146 : decode cX7_takeUp 146 = .ok (.iload 9, 2) := by decide +kernel
theorem dX7_takeUp_148 : decode cX7_takeUp 148 = .ok (.aaload, 1) := by decide +kernel
theorem dX7_takeUp_149 : decode cX7_takeUp 149 = .ok (.getfield 268, 3) := by decide +kernel
theorem dX7_takeUp_152 : decode cX7_takeUp 152 = .ok (.invokevirtual 374, 3) := by decide +kernel
theorem dX7_takeUp_155 : decode cX7_takeUp 155 = .ok (.ifCond .eq 33, 3) := by decide +kernel
theorem dX7_takeUp_158 : decode cX7_takeUp 158 = .ok (.aload 5, 2) := by decide +kernel
theorem dX7_takeUp_160 : decode cX7_takeUp 160 = .ok (.aload_n 3, 1) := by decide +kernel
theorem dX7_takeUp_161 : decode cX7_takeUp 161 = .ok (.iload 9, 2) := by decide +kernel
theorem dX7_takeUp_163 : decode cX7_takeUp 163 = .ok (.iload 6, 2) := by decide +kernel
theorem dX7_takeUp_165 : decode cX7_takeUp 165 = .ok (.invokevirtual 384, 3) := by decide +kernel
theorem dX7_takeUp_168 : decode cX7_takeUp 168 = .ok (.aload 5, 2) := by decide +kernel
theorem dX7_takeUp_170 : decode cX7_takeUp 170 = .ok (.aload_n 3, 1) := by decide +kernel
theorem dX7_takeUp_171 : decode cX7_takeUp 171 = .ok (.iload 9, 2) := by decide +kernel
theorem dX7_takeUp_173 : decode cX7_takeUp 173 = .ok (.iload 6, 2) := by decide +kernel
theorem dX7_takeUp_175 : decode cX7_takeUp 175 = .ok (.invokevirtual 387, 3) := by decide +kernel
theorem dX7_takeUp_178 : decode cX7_takeUp 178 = .ok (.aload 5, 2) := by decide +kernel
theorem dX7_takeUp_180 : decode cX7_takeUp 180 = .ok (.aload_n 3, 1) := by decide +kernel
theorem dX7_takeUp_181 : decode cX7_takeUp 181 = .ok (.iload 9, 2) := by decide +kernel
theorem dX7_takeUp_183 : decode cX7_takeUp 183 = .ok (.iload 6, 2) := by decide +kernel
theorem dX7_takeUp_185 : decode cX7_takeUp 185 = .ok (.invokevirtual 390, 3) := by decide +kernel
theorem dX7_takeUp_188 : decode cX7_takeUp 188 = .ok (.iinc 9 1, 3) := by decide +kernel
theorem dX7_takeUp_191 : decode cX7_takeUp 191 = .ok (.goto (-69), 3) := by decide +kernel
theorem dX7_takeUp_194 : decode cX7_takeUp 194 = .ok (.aload_n 0, 1) := by decide +kernel
theorem dX7_takeUp_195 : decode cX7_takeUp 195 = .ok (.dup, 1) := by decide +kernel
theorem dX7_takeUp_196 : decode cX7_takeUp 196 = .ok (.getfield 247, 3) := by decide +kernel
theorem dX7_takeUp_199 : decode cX7_takeUp 199 = .ok (.aload 5, 2) := by decide +kernel
theorem dX7_takeUp_201 : decode cX7_takeUp 201 = .ok (.invokevirtual 364, 3) := by decide +kernel
theorem dX7_takeUp_204 : decode cX7_takeUp 204 = .ok (.iload 7, 2) := by decide +kernel
theorem dX7_takeUp_206 : decode cX7_takeUp 206 = .ok (.isub, 1) := by decide +kernel
theorem dX7_takeUp_207 : decode cX7_takeUp 207 = .ok (.iadd, 1) := by decide +kernel
theorem dX7_takeUp_208 : decode cX7_takeUp 208 = .ok (.putfield 247, 3) := by decide +kernel
theorem dX7_takeUp_211 : decode cX7_takeUp 211 = .ok (.return_, 1) := by decide +kernel
theorem dX7_hearLetter_0 : decode cX7_hearLetter 0 = .ok (.aload_n 3, 1) := by decide +kernel
theorem dX7_hearLetter_1 : decode cX7_hearLetter 1 = .ok (.getfield 372, 3) := by decide +kernel
theorem dX7_hearLetter_4 : decode cX7_hearLetter 4 = .ok (.ifCond .eq 37, 3) := by decide +kernel
theorem dX7_hearLetter_7 : decode cX7_hearLetter 7 = .ok (.iconst 0, 1) := by decide +kernel
theorem dX7_hearLetter_8 : decode cX7_hearLetter 8 = .ok (.istore 4, 2) := by decide +kernel
theorem dX7_hearLetter_10 : decode cX7_hearLetter 10 = .ok (.iload 4, 2) := by decide +kernel
theorem dX7_hearLetter_12 : decode cX7_hearLetter 12 = .ok (.bipush 16, 2) := by decide +kernel
theorem dX7_hearLetter_14 : decode cX7_hearLetter 14 = .ok (.if_icmp .ge 27, 3) := by decide +kernel
theorem dX7_hearLetter_17 : decode cX7_hearLetter 17 = .ok (.aload_n 3, 1) := by decide +kernel
theorem dX7_hearLetter_18 : decode cX7_hearLetter 18 = .ok (.iload 4, 2) := by decide +kernel
theorem dX7_hearLetter_20 : decode cX7_hearLetter 20 = .ok (.invokevirtual 393, 3) := by decide +kernel
theorem dX7_hearLetter_23 : decode cX7_hearLetter 23 = .ok (.ifCond .eq 12, 3) := by decide +kernel
theorem dX7_hearLetter_26 : decode cX7_hearLetter 26 = .ok (.aload_n 0, 1) := by decide +kernel
theorem dX7_hearLetter_27 : decode cX7_hearLetter 27 = .ok (.aload_n 1, 1) := by decide +kernel
theorem dX7_hearLetter_28 : decode cX7_hearLetter 28 = .ok (.aload_n 2, 1) := by decide +kernel
theorem dX7_hearLetter_29 : decode cX7_hearLetter 29 = .ok (.aload_n 3, 1) := by decide +kernel
theorem dX7_hearLetter_30 : decode cX7_hearLetter 30 = .ok (.iload 4, 2) := by decide +kernel
theorem dX7_hearLetter_32 : decode cX7_hearLetter 32 = .ok (.invokevirtual 396, 3) := by decide +kernel
theorem dX7_hearLetter_35 : decode cX7_hearLetter 35 = .ok (.iinc 4 1, 3) := by decide +kernel
theorem dX7_hearLetter_38 : decode cX7_hearLetter 38 = .ok (.goto (-28), 3) := by decide +kernel
theorem dX7_hearLetter_41 : decode cX7_hearLetter 41 = .ok (.aload_n 3, 1) := by decide +kernel
theorem dX7_hearLetter_42 : decode cX7_hearLetter 42 = .ok (.getfield 365, 3) := by decide +kernel
theorem dX7_hearLetter_45 : decode cX7_hearLetter 45 = .ok (.ifCond .eq 50, 3) := by decide +kernel
theorem dX7_hearLetter_48 : decode cX7_hearLetter 48 = .ok (.iconst 0, 1) := by decide +kernel
theorem dX7_hearLetter_49 : decode cX7_hearLetter 49 = .ok (.istore 4, 2) := by decide +kernel
theorem dX7_hearLetter_51 : decode cX7_hearLetter 51 = .ok (.iload 4, 2) := by decide +kernel
theorem dX7_hearLetter_53 : decode cX7_hearLetter 53 = .ok (.aload_n 0, 1) := by decide +kernel
theorem dX7_hearLetter_54 : decode cX7_hearLetter 54 = .ok (.getfield 103, 3) := by decide +kernel
theorem dX7_hearLetter_57 : decode cX7_hearLetter 57 = .ok (.if_icmp .ge 38, 3) := by decide +kernel
theorem dX7_hearLetter_60 : decode cX7_hearLetter 60 = .ok (.aload_n 3, 1) := by decide +kernel
theorem dX7_hearLetter_61 : decode cX7_hearLetter 61 = .ok (.iload 4, 2) := by decide +kernel
theorem dX7_hearLetter_63 : decode cX7_hearLetter 63 = .ok (.invokevirtual 400, 3) := by decide +kernel
theorem dX7_hearLetter_66 : decode cX7_hearLetter 66 = .ok (.ifCond .eq 23, 3) := by decide +kernel
theorem dX7_hearLetter_69 : decode cX7_hearLetter 69 = .ok (.aload_n 0, 1) := by decide +kernel
theorem dX7_hearLetter_70 : decode cX7_hearLetter 70 = .ok (.aload_n 1, 1) := by decide +kernel
theorem dX7_hearLetter_71 : decode cX7_hearLetter 71 = .ok (.aload_n 0, 1) := by decide +kernel
theorem dX7_hearLetter_72 : decode cX7_hearLetter 72 = .ok (.getfield 17, 3) := by decide +kernel
theorem dX7_hearLetter_75 : decode cX7_hearLetter 75 = .ok (.iload 4, 2) := by decide +kernel
theorem dX7_hearLetter_77 : decode cX7_hearLetter 77 = .ok (.aaload, 1) := by decide +kernel
theorem dX7_hearLetter_78 : decode cX7_hearLetter 78 = .ok (.aload_n 3, 1) := by decide +kernel
theorem dX7_hearLetter_79 : decode cX7_hearLetter 79 = .ok (.getfield 403, 3) := by decide +kernel
theorem dX7_hearLetter_82 : decode cX7_hearLetter 82 = .ok (.iload 4, 2) := by decide +kernel
theorem dX7_hearLetter_84 : decode cX7_hearLetter 84 = .ok (.iaload, 1) := by decide +kernel
theorem dX7_hearLetter_85 : decode cX7_hearLetter 85 = .ok (.iconst 0, 1) := by decide +kernel
theorem dX7_hearLetter_86 : decode cX7_hearLetter 86 = .ok (.invokevirtual 406, 3) := by decide +kernel
theorem dX7_hearLetter_89 : decode cX7_hearLetter 89 = .ok (.iinc 4 1, 3) := by decide +kernel
theorem dX7_hearLetter_92 : decode cX7_hearLetter 92 = .ok (.goto (-41), 3) := by decide +kernel
theorem dX7_hearLetter_95 : decode cX7_hearLetter 95 = .ok (.aload_n 1, 1) := by decide +kernel
theorem dX7_hearLetter_96 : decode cX7_hearLetter 96 = .ok (.getfield 134, 3) := by decide +kernel
theorem dX7_hearLetter_99 : decode cX7_hearLetter 99 = .ok (.aload_n 3, 1) := by decide +kernel
theorem dX7_hearLetter_100 : decode cX7_hearLetter 100 = .ok (.getfield 366, 3) := by decide +kernel
theorem dX7_hearLetter_103 : decode cX7_hearLetter 103 = .ok (.invokevirtual 410, 3) := by decide +kernel
theorem dX7_hearLetter_106 : decode cX7_hearLetter 106 = .ok (.aload_n 3, 1) := by decide +kernel
theorem dX7_hearLetter_107 : decode cX7_hearLetter 107 = .ok (.getfield 369, 3) := by decide +kernel
theorem dX7_hearLetter_110 : decode cX7_hearLetter 110 = .ok (.ifCond .eq 43, 3) := by decide +kernel
theorem dX7_hearLetter_113 : decode cX7_hearLetter 113 = .ok (.iconst 0, 1) := by decide +kernel
theorem dX7_hearLetter_114 : decode cX7_hearLetter 114 = .ok (.istore 4, 2) := by decide +kernel
theorem dX7_hearLetter_116 : decode cX7_hearLetter 116 = .ok (.iload 4, 2) := by decide +kernel
theorem dX7_hearLetter_118 : decode cX7_hearLetter 118 = .ok (.aload_n 0, 1) := by decide +kernel
theorem dX7_hearLetter_119 : decode cX7_hearLetter 119 = .ok (.getfield 103, 3) := by decide +kernel
theorem dX7_hearLetter_122 : decode cX7_hearLetter 122 = .ok (.if_icmp .ge 31, 3) := by decide +kernel
theorem dX7_hearLetter_125 : decode cX7_hearLetter 125 = .ok (.aload_n 3, 1) := by decide +kernel
theorem dX7_hearLetter_126 : decode cX7_hearLetter 126 = .ok (.iload 4, 2) := by decide +kernel
theorem dX7_hearLetter_128 : decode cX7_hearLetter 128 = .ok (.invokevirtual 413, 3) := by decide +kernel
theorem dX7_hearLetter_131 : decode cX7_hearLetter 131 = .ok (.ifCond .eq 16, 3) := by decide +kernel
theorem dX7_hearLetter_134 : decode cX7_hearLetter 134 = .ok (.aload_n 0, 1) := by decide +kernel
theorem dX7_hearLetter_135 : decode cX7_hearLetter 135 = .ok (.aload_n 1, 1) := by decide +kernel
theorem dX7_hearLetter_136 : decode cX7_hearLetter 136 = .ok (.aload_n 0, 1) := by decide +kernel
theorem dX7_hearLetter_137 : decode cX7_hearLetter 137 = .ok (.getfield 17, 3) := by decide +kernel
theorem dX7_hearLetter_140 : decode cX7_hearLetter 140 = .ok (.iload 4, 2) := by decide +kernel
theorem dX7_hearLetter_142 : decode cX7_hearLetter 142 = .ok (.aaload, 1) := by decide +kernel
theorem dX7_hearLetter_143 : decode cX7_hearLetter 143 = .ok (.aload_n 3, 1) := by decide +kernel
theorem dX7_hearLetter_144 : decode cX7_hearLetter 144 = .ok (.invokevirtual 416, 3) := by decide +kernel
theorem dX7_hearLetter_147 : decode cX7_hearLetter 147 = .ok (.iinc 4 1, 3) := by decide +kernel
theorem dX7_hearLetter_150 : decode cX7_hearLetter 150 = .ok (.goto (-34), 3) := by decide +kernel
theorem dX7_hearLetter_153 : decode cX7_hearLetter 153 = .ok (.return_, 1) := by decide +kernel
theorem dX7_hearAsk_0 : decode cX7_hearAsk 0 = .ok (.aload_n 3, 1) := by decide +kernel
theorem dX7_hearAsk_1 : decode cX7_hearAsk 1 = .ok (.getfield 420, 3) := by decide +kernel
theorem dX7_hearAsk_4 : decode cX7_hearAsk 4 = .ok (.iload 4, 2) := by decide +kernel
theorem dX7_hearAsk_6 : decode cX7_hearAsk 6 = .ok (.iaload, 1) := by decide +kernel
theorem dX7_hearAsk_7 : decode cX7_hearAsk 7 = .ok (.istore 5, 2) := by decide +kernel
theorem dX7_hearAsk_9 : decode cX7_hearAsk 9 = .ok (.aload_n 3, 1) := by decide +kernel
theorem dX7_hearAsk_10 : decode cX7_hearAsk 10 = .ok (.getfield 423, 3) := by decide +kernel
theorem dX7_hearAsk_13 : decode cX7_hearAsk 13 = .ok (.iload 4, 2) := by decide +kernel
theorem dX7_hearAsk_15 : decode cX7_hearAsk 15 = .ok (.iaload, 1) := by decide +kernel
theorem dX7_hearAsk_16 : decode cX7_hearAsk 16 = .ok (.istore 6, 2) := by decide +kernel
theorem dX7_hearAsk_18 : decode cX7_hearAsk 18 = .ok (.aload_n 1, 1) := by decide +kernel
theorem dX7_hearAsk_19 : decode cX7_hearAsk 19 = .ok (.getfield 71, 3) := by decide +kernel
theorem dX7_hearAsk_22 : decode cX7_hearAsk 22 = .ok (.astore 7, 2) := by decide +kernel
theorem dX7_hearAsk_24 : decode cX7_hearAsk 24 = .ok (.aload 7, 2) := by decide +kernel
theorem dX7_hearAsk_26 : decode cX7_hearAsk 26 = .ok (.iload 4, 2) := by decide +kernel
theorem dX7_hearAsk_28 : decode cX7_hearAsk 28 = .ok (.invokevirtual 75, 3) := by decide +kernel
theorem dX7_hearAsk_31 : decode cX7_hearAsk 31 = .ok (.ifCond .eq 38, 3) := by decide +kernel
theorem dX7_hearAsk_34 : decode cX7_hearAsk 34 = .ok (.aload 7, 2) := by decide +kernel
theorem dX7_hearAsk_36 : decode cX7_hearAsk 36 = .ok (.getfield 305, 3) := by decide +kernel
theorem dX7_hearAsk_39 : decode cX7_hearAsk 39 = .ok (.iload 4, 2) := by decide +kernel
theorem dX7_hearAsk_41 : decode cX7_hearAsk 41 = .ok (.iaload, 1) := by decide +kernel
theorem dX7_hearAsk_42 : decode cX7_hearAsk 42 = .ok (.iload 5, 2) := by decide +kernel
theorem dX7_hearAsk_44 : decode cX7_hearAsk 44 = .ok (.if_icmp .ne 25, 3) := by decide +kernel
theorem dX7_hearAsk_47 : decode cX7_hearAsk 47 = .ok (.iload 6, 2) := by decide +kernel
theorem dX7_hearAsk_49 : decode cX7_hearAsk 49 = .ok (.aload_n 0, 1) := by decide +kernel
theorem dX7_hearAsk_50 : decode cX7_hearAsk 50 = .ok (.aload_n 1, 1) := by decide +kernel
theorem dX7_hearAsk_51 : decode cX7_hearAsk 51 = .ok (.iload 4, 2) := by decide +kernel
theorem dX7_hearAsk_53 : decode cX7_hearAsk 53 = .ok (.invokevirtual 306, 3) := by decide +kernel
theorem dX7_hearAsk_56 : decode cX7_hearAsk 56 = .ok (.iconst (-1), 1) := by decide +kernel
theorem dX7_hearAsk_57 : decode cX7_hearAsk 57 = .ok (.ixor, 1) := by decide +kernel
theorem dX7_hearAsk_58 : decode cX7_hearAsk 58 = .ok (.iand, 1) := by decide +kernel
theorem dX7_hearAsk_59 : decode cX7_hearAsk 59 = .ok (.ifCond .ne 10, 3) := by decide +kernel
theorem dX7_hearAsk_62 : decode cX7_hearAsk 62 = .ok (.aload 7, 2) := by decide +kernel
theorem dX7_hearAsk_64 : decode cX7_hearAsk 64 = .ok (.iload 4, 2) := by decide +kernel
theorem dX7_hearAsk_66 : decode cX7_hearAsk 66 = .ok (.invokevirtual 316, 3) := by decide +kernel
theorem dX7_hearAsk_69 : decode cX7_hearAsk 69 = .ok (.aload_n 0, 1) := by decide +kernel
theorem dX7_hearAsk_70 : decode cX7_hearAsk 70 = .ok (.aload_n 3, 1) := by decide +kernel
theorem dX7_hearAsk_71 : decode cX7_hearAsk 71 = .ok (.getfield 348, 3) := by decide +kernel
theorem dX7_hearAsk_74 : decode cX7_hearAsk 74 = .ok (.aload_n 2, 1) := by decide +kernel
theorem dX7_hearAsk_75 : decode cX7_hearAsk 75 = .ok (.invokevirtual 426, 3) := by decide +kernel
theorem dX7_hearAsk_78 : decode cX7_hearAsk 78 = .ok (.astore 8, 2) := by decide +kernel
theorem dX7_hearAsk_80 : decode cX7_hearAsk 80 = .ok (.aload 8, 2) := by decide +kernel
theorem dX7_hearAsk_82 : decode cX7_hearAsk 82 = .ok (.ifnull 10, 3) := by decide +kernel
theorem dX7_hearAsk_85 : decode cX7_hearAsk 85 = .ok (.aload 8, 2) := by decide +kernel
theorem dX7_hearAsk_87 : decode cX7_hearAsk 87 = .ok (.aload_n 1, 1) := by decide +kernel
theorem dX7_hearAsk_88 : decode cX7_hearAsk 88 = .ok (.if_acmp .eq 4, 3) := by decide +kernel
theorem dX7_hearAsk_91 : decode cX7_hearAsk 91 = .ok (.return_, 1) := by decide +kernel
theorem dX7_hearAsk_92 : decode cX7_hearAsk 92 = .ok (.aload_n 0, 1) := by decide +kernel
theorem dX7_hearAsk_93 : decode cX7_hearAsk 93 = .ok (.getfield 62, 3) := by decide +kernel
theorem dX7_hearAsk_96 : decode cX7_hearAsk 96 = .ok (.iconst 1, 1) := by decide +kernel
theorem dX7_hearAsk_97 : decode cX7_hearAsk 97 = .ok (.iadd, 1) := by decide +kernel
theorem dX7_hearAsk_98 : decode cX7_hearAsk 98 = .ok (.aload_n 0, 1) := by decide +kernel
theorem dX7_hearAsk_99 : decode cX7_hearAsk 99 = .ok (.aload_n 1, 1) := by decide +kernel
theorem dX7_hearAsk_100 : decode cX7_hearAsk 100 = .ok (.invokevirtual 80, 3) := by decide +kernel
theorem dX7_hearAsk_103 : decode cX7_hearAsk 103 = .ok (.iadd, 1) := by decide +kernel
theorem dX7_hearAsk_104 : decode cX7_hearAsk 104 = .ok (.istore 9, 2) := by decide +kernel
theorem dX7_hearAsk_106 : decode cX7_hearAsk 106 = .ok (.iconst 0, 1) := by decide +kernel
theorem dX7_hearAsk_107 : decode cX7_hearAsk 107 = .ok (.istore 10, 2) := by decide +kernel
theorem dX7_hearAsk_109 : decode cX7_hearAsk 109 = .ok (.iload 10, 2) := by decide +kernel
theorem dX7_hearAsk_111 : decode cX7_hearAsk 111 = .ok (.aload_n 0, 1) := by decide +kernel
theorem dX7_hearAsk_112 : decode cX7_hearAsk 112 = .ok (.getfield 103, 3) := by decide +kernel
theorem dX7_hearAsk_115 : decode cX7_hearAsk 115 = .ok (.if_icmp .ge 57, 3) := by decide +kernel
theorem dX7_hearAsk_118 : decode cX7_hearAsk 118 = .ok (.aload_n 0, 1) := by decide +kernel
theorem dX7_hearAsk_119 : decode cX7_hearAsk 119 = .ok (.getfield 17, 3) := by decide +kernel
theorem dX7_hearAsk_122 : decode cX7_hearAsk 122 = .ok (.iload 10, 2) := by decide +kernel
theorem dX7_hearAsk_124 : decode cX7_hearAsk 124 = .ok (.aaload, 1) := by decide +kernel
theorem dX7_hearAsk_125 : decode cX7_hearAsk 125 = .ok (.getfield 268, 3) := by decide +kernel
theorem dX7_hearAsk_128 : decode cX7_hearAsk 128 = .ok (.iload 4, 2) := by decide +kernel
theorem dX7_hearAsk_130 : decode cX7_hearAsk 130 = .ok (.if_icmp .ne 36, 3) := by decide +kernel
theorem dX7_hearAsk_133 : decode cX7_hearAsk 133 = .ok (.iload 6, 2) := by decide +kernel
theorem dX7_hearAsk_135 : decode cX7_hearAsk 135 = .ok (.iload 10, 2) := by decide +kernel
theorem dX7_hearAsk_137 : decode cX7_hearAsk 137 = .ok (.invokestatic 381, 3) := by decide +kernel
theorem dX7_hearAsk_140 : decode cX7_hearAsk 140 = .ok (.ifCond .ne 26, 3) := by decide +kernel
theorem dX7_hearAsk_143 : decode cX7_hearAsk 143 = .ok (.aload_n 0, 1) := by decide +kernel
theorem dX7_hearAsk_144 : decode cX7_hearAsk 144 = .ok (.aload_n 1, 1) := by decide +kernel
theorem dX7_hearAsk_145 : decode cX7_hearAsk 145 = .ok (.iload 10, 2) := by decide +kernel
theorem dX7_hearAsk_147 : decode cX7_hearAsk 147 = .ok (.iload 5, 2) := by decide +kernel
theorem dX7_hearAsk_149 : decode cX7_hearAsk 149 = .ok (.invokevirtual 430, 3) := by decide +kernel
theorem dX7_hearAsk_152 : decode cX7_hearAsk 152 = .ok (.ifCond .eq 14, 3) := by decide +kernel
theorem dX7_hearAsk_155 : decode cX7_hearAsk 155 = .ok (.aload_n 1, 1) := by decide +kernel
theorem dX7_hearAsk_156 : decode cX7_hearAsk 156 = .ok (.getfield 143, 3) := by decide +kernel
theorem dX7_hearAsk_159 : decode cX7_hearAsk 159 = .ok (.iload 10, 2) := by decide +kernel
theorem dX7_hearAsk_161 : decode cX7_hearAsk 161 = .ok (.iload 9, 2) := by decide +kernel
theorem dX7_hearAsk_163 : decode cX7_hearAsk 163 = .ok (.invokevirtual 434, 3) := by decide +kernel
theorem dX7_hearAsk_166 : decode cX7_hearAsk 166 = .ok (.iinc 10 1, 3) := by decide +kernel
theorem dX7_hearAsk_169 : decode cX7_hearAsk 169 = .ok (.goto (-60), 3) := by decide +kernel
theorem dX7_hearAsk_172 : decode cX7_hearAsk 172 = .ok (.return_, 1) := by decide +kernel
theorem dX7_canAnswer_0 : decode cX7_canAnswer 0 = .ok (.aload_n 0, 1) := by decide +kernel
theorem dX7_canAnswer_1 : decode cX7_canAnswer 1 = .ok (.getfield 17, 3) := by decide +kernel
theorem dX7_canAnswer_4 : decode cX7_canAnswer 4 = .ok (.iload_n 2, 1) := by decide +kernel
theorem dX7_canAnswer_5 : decode cX7_canAnswer 5 = .ok (.aaload, 1) := by decide +kernel
theorem dX7_canAnswer_6 : decode cX7_canAnswer 6 = .ok (.astore 4, 2) := by decide +kernel
theorem dX7_canAnswer_8 : decode cX7_canAnswer 8 = .ok (.aload_n 0, 1) := by decide +kernel
theorem dX7_canAnswer_9 : decode cX7_canAnswer 9 = .ok (.aload_n 1, 1) := by decide +kernel
theorem dX7_canAnswer_10 : decode cX7_canAnswer 10 = .ok (.aload 4, 2) := by decide +kernel
theorem dX7_canAnswer_12 : decode cX7_canAnswer 12 = .ok (.invokevirtual 331, 3) := by decide +kernel
theorem dX7_canAnswer_15 : decode cX7_canAnswer 15 = .ok (.ifCond .eq 29, 3) := by decide +kernel
theorem dX7_canAnswer_18 : decode cX7_canAnswer 18 = .ok (.aload 4, 2) := by decide +kernel
theorem dX7_canAnswer_20 : decode cX7_canAnswer 20 = .ok (.getfield 59, 3) := by decide +kernel
theorem dX7_canAnswer_23 : decode cX7_canAnswer 23 = .ok (.iconst 2, 1) := by decide +kernel
theorem dX7_canAnswer_24 : decode cX7_canAnswer 24 = .ok (.if_icmp .ne 18, 3) := by decide +kernel
theorem dX7_canAnswer_27 : decode cX7_canAnswer 27 = .ok (.aload 4, 2) := by decide +kernel
theorem dX7_canAnswer_29 : decode cX7_canAnswer 29 = .ok (.getfield 56, 3) := by decide +kernel
theorem dX7_canAnswer_32 : decode cX7_canAnswer 32 = .ok (.iload_n 3, 1) := by decide +kernel
theorem dX7_canAnswer_33 : decode cX7_canAnswer 33 = .ok (.iand, 1) := by decide +kernel
theorem dX7_canAnswer_34 : decode cX7_canAnswer 34 = .ok (.iload_n 3, 1) := by decide +kernel
theorem dX7_canAnswer_35 : decode cX7_canAnswer 35 = .ok (.if_icmp .ne 7, 3) := by decide +kernel
theorem dX7_canAnswer_38 : decode cX7_canAnswer 38 = .ok (.iconst 1, 1) := by decide +kernel
theorem dX7_canAnswer_39 : decode cX7_canAnswer 39 = .ok (.goto 4, 3) := by decide +kernel
theorem dX7_canAnswer_42 : decode cX7_canAnswer 42 = .ok (.iconst 0, 1) := by decide +kernel
theorem dX7_canAnswer_43 : decode cX7_canAnswer 43 = .ok (.ireturn, 1) := by decide +kernel
theorem dX7_canAnswer_44 : decode cX7_canAnswer 44 = .ok (.aload_n 1, 1) := by decide +kernel
theorem dX7_canAnswer_45 : decode cX7_canAnswer 45 = .ok (.getfield 91, 3) := by decide +kernel
theorem dX7_canAnswer_48 : decode cX7_canAnswer 48 = .ok (.ifCond .eq 33, 3) := by decide +kernel
theorem dX7_canAnswer_51 : decode cX7_canAnswer 51 = .ok (.aload_n 1, 1) := by decide +kernel
theorem dX7_canAnswer_52 : decode cX7_canAnswer 52 = .ok (.getfield 134, 3) := by decide +kernel
theorem dX7_canAnswer_55 : decode cX7_canAnswer 55 = .ok (.iload_n 2, 1) := by decide +kernel
theorem dX7_canAnswer_56 : decode cX7_canAnswer 56 = .ok (.invokevirtual 191, 3) := by decide +kernel
theorem dX7_canAnswer_59 : decode cX7_canAnswer 59 = .ok (.ifCond .eq 22, 3) := by decide +kernel
theorem dX7_canAnswer_62 : decode cX7_canAnswer 62 = .ok (.aload_n 1, 1) := by decide +kernel
theorem dX7_canAnswer_63 : decode cX7_canAnswer 63 = .ok (.getfield 134, 3) := by decide +kernel
theorem dX7_canAnswer_66 : decode cX7_canAnswer 66 = .ok (.getfield 192, 3) := by decide +kernel
theorem dX7_canAnswer_69 : decode cX7_canAnswer 69 = .ok (.iload_n 2, 1) := by decide +kernel
theorem dX7_canAnswer_70 : decode cX7_canAnswer 70 = .ok (.iaload, 1) := by decide +kernel
theorem dX7_canAnswer_71 : decode cX7_canAnswer 71 = .ok (.iload_n 3, 1) := by decide +kernel
theorem dX7_canAnswer_72 : decode cX7_canAnswer 72 = .ok (.iand, 1) := by decide +kernel
theorem dX7_canAnswer_73 : decode cX7_canAnswer 73 = .ok (.iload_n 3, 1) := by decide +kernel
theorem dX7_canAnswer_74 : decode cX7_canAnswer 74 = .ok (.if_icmp .ne 7, 3) := by decide +kernel
theorem dX7_canAnswer_77 : decode cX7_canAnswer 77 = .ok (.iconst 1, 1) := by decide +kernel
theorem dX7_canAnswer_78 : decode cX7_canAnswer 78 = .ok (.goto 4, 3) := by decide +kernel
theorem dX7_canAnswer_81 : decode cX7_canAnswer 81 = .ok (.iconst 0, 1) := by decide +kernel
theorem dX7_canAnswer_82 : decode cX7_canAnswer 82 = .ok (.ireturn, 1) := by decide +kernel
theorem dX7_leastKeeperOn_0 : decode cX7_leastKeeperOn 0 = .ok (.iconst 0, 1) := by decide +kernel
theorem dX7_leastKeeperOn_1 : decode cX7_leastKeeperOn 1 = .ok (.istore_n 3, 1) := by decide +kernel
theorem dX7_leastKeeperOn_2 : decode cX7_leastKeeperOn 2 = .ok (.iload_n 3, 1) := by decide +kernel
theorem dX7_leastKeeperOn_3 : decode cX7_leastKeeperOn 3 = .ok (.aload_n 0, 1) := by decide +kernel
theorem dX7_leastKeeperOn_4 : decode cX7_leastKeeperOn 4 = .ok (.getfield 25, 3) := by decide +kernel
theorem dX7_leastKeeperOn_7 : decode cX7_leastKeeperOn 7 = .ok (.if_icmp .ge 52, 3) := by decide +kernel
theorem dX7_leastKeeperOn_10 : decode cX7_leastKeeperOn 10 = .ok (.aload_n 0, 1) := by decide +kernel
theorem dX7_leastKeeperOn_11 : decode cX7_leastKeeperOn 11 = .ok (.getfield 11, 3) := by decide +kernel
theorem dX7_leastKeeperOn_14 : decode cX7_leastKeeperOn 14 = .ok (.iload_n 3, 1) := by decide +kernel
theorem dX7_leastKeeperOn_15 : decode cX7_leastKeeperOn 15 = .ok (.aaload, 1) := by decide +kernel
theorem dX7_leastKeeperOn_16 : decode cX7_leastKeeperOn 16 = .ok (.astore 4, 2) := by decide +kernel
theorem dX7_leastKeeperOn_18 : decode cX7_leastKeeperOn 18 = .ok (.aload 4, 2) := by decide +kernel
theorem dX7_leastKeeperOn_20 : decode cX7_leastKeeperOn 20 = .ok (.getfield 91, 3) := by decide +kernel
theorem dX7_leastKeeperOn_23 : decode cX7_leastKeeperOn 23 = .ok (.ifCond .eq 30, 3) := by decide +kernel
theorem dX7_leastKeeperOn_26 : decode cX7_leastKeeperOn 26 = .ok (.aload 4, 2) := by decide +kernel
theorem dX7_leastKeeperOn_28 : decode cX7_leastKeeperOn 28 = .ok (.aload_n 2, 1) := by decide +kernel
theorem dX7_leastKeeperOn_29 : decode cX7_leastKeeperOn 29 = .ok (.if_acmp .eq 24, 3) := by decide +kernel
theorem dX7_leastKeeperOn_32 : decode cX7_leastKeeperOn 32 = .ok (.aload 4, 2) := by decide +kernel
theorem dX7_leastKeeperOn_34 : decode cX7_leastKeeperOn 34 = .ok (.getfield 95, 3) := by decide +kernel
theorem dX7_leastKeeperOn_37 : decode cX7_leastKeeperOn 37 = .ok (.iconst 2, 1) := by decide +kernel
theorem dX7_leastKeeperOn_38 : decode cX7_leastKeeperOn 38 = .ok (.if_icmp .ne 15, 3) := by decide +kernel
theorem dX7_leastKeeperOn_41 : decode cX7_leastKeeperOn 41 = .ok (.aload 4, 2) := by decide +kernel
theorem dX7_leastKeeperOn_43 : decode cX7_leastKeeperOn 43 = .ok (.getfield 88, 3) := by decide +kernel
theorem dX7_leastKeeperOn_46 : decode cX7_leastKeeperOn 46 = .ok (.iload_n 1, 1) := by decide +kernel
theorem dX7_leastKeeperOn_47 : decode cX7_leastKeeperOn 47 = .ok (.if_icmp .ne 6, 3) := by decide +kernel
theorem dX7_leastKeeperOn_50 : decode cX7_leastKeeperOn 50 = .ok (.aload 4, 2) := by decide +kernel
theorem dX7_leastKeeperOn_52 : decode cX7_leastKeeperOn 52 = .ok (.areturn, 1) := by decide +kernel
theorem dX7_leastKeeperOn_53 : decode cX7_leastKeeperOn 53 = .ok (.iinc 3 1, 3) := by decide +kernel
theorem dX7_leastKeeperOn_56 : decode cX7_leastKeeperOn 56 = .ok (.goto (-54), 3) := by decide +kernel
theorem dX7_leastKeeperOn_59 : decode cX7_leastKeeperOn 59 = .ok (.aconst_null, 1) := by decide +kernel
theorem dX7_leastKeeperOn_60 : decode cX7_leastKeeperOn 60 = .ok (.areturn, 1) := by decide +kernel
theorem dX7_knownTo_0 : decode cX7_knownTo 0 = .ok (.iconst 0, 1) := by decide +kernel
theorem dX7_knownTo_1 : decode cX7_knownTo 1 = .ok (.istore_n 3, 1) := by decide +kernel
theorem dX7_knownTo_2 : decode cX7_knownTo 2 = .ok (.iconst 0, 1) := by decide +kernel
theorem dX7_knownTo_3 : decode cX7_knownTo 3 = .ok (.istore 4, 2) := by decide +kernel
theorem dX7_knownTo_5 : decode cX7_knownTo 5 = .ok (.iload 4, 2) := by decide +kernel
theorem dX7_knownTo_7 : decode cX7_knownTo 7 = .ok (.aload_n 0, 1) := by decide +kernel
theorem dX7_knownTo_8 : decode cX7_knownTo 8 = .ok (.getfield 103, 3) := by decide +kernel
theorem dX7_knownTo_11 : decode cX7_knownTo 11 = .ok (.if_icmp .ge 46, 3) := by decide +kernel
theorem dX7_knownTo_14 : decode cX7_knownTo 14 = .ok (.aload_n 0, 1) := by decide +kernel
theorem dX7_knownTo_15 : decode cX7_knownTo 15 = .ok (.getfield 17, 3) := by decide +kernel
theorem dX7_knownTo_18 : decode cX7_knownTo 18 = .ok (.iload 4, 2) := by decide +kernel
theorem dX7_knownTo_20 : decode cX7_knownTo 20 = .ok (.aaload, 1) := by decide +kernel
theorem dX7_knownTo_21 : decode cX7_knownTo 21 = .ok (.getfield 268, 3) := by decide +kernel
theorem dX7_knownTo_24 : decode cX7_knownTo 24 = .ok (.iload_n 2, 1) := by decide +kernel
theorem dX7_knownTo_25 : decode cX7_knownTo 25 = .ok (.if_icmp .ne 26, 3) := by decide +kernel
theorem dX7_knownTo_28 : decode cX7_knownTo 28 = .ok (.aload_n 1, 1) := by decide +kernel
theorem dX7_knownTo_29 : decode cX7_knownTo 29 = .ok (.getfield 134, 3) := by decide +kernel
theorem dX7_knownTo_32 : decode cX7_knownTo 32 = .ok (.iload 4, 2) := by decide +kernel
theorem dX7_knownTo_34 : decode cX7_knownTo 34 = .ok (.aload_n 0, 1) := by decide +kernel
theorem dX7_knownTo_35 : decode cX7_knownTo 35 = .ok (.getfield 62, 3) := by decide +kernel
theorem dX7_knownTo_38 : decode cX7_knownTo 38 = .ok (.invokevirtual 437, 3) := by decide +kernel
theorem dX7_knownTo_41 : decode cX7_knownTo 41 = .ok (.ifCond .eq 10, 3) := by decide +kernel
theorem dX7_knownTo_44 : decode cX7_knownTo 44 = .ok (.iload_n 3, 1) := by decide +kernel
theorem dX7_knownTo_45 : decode cX7_knownTo 45 = .ok (.iconst 1, 1) := by decide +kernel
theorem dX7_knownTo_46 : decode cX7_knownTo 46 = .ok (.iload 4, 2) := by decide +kernel
theorem dX7_knownTo_48 : decode cX7_knownTo 48 = .ok (.ishl, 1) := by decide +kernel
theorem dX7_knownTo_49 : decode cX7_knownTo 49 = .ok (.ior, 1) := by decide +kernel
theorem dX7_knownTo_50 : decode cX7_knownTo 50 = .ok (.istore_n 3, 1) := by decide +kernel
theorem dX7_knownTo_51 : decode cX7_knownTo 51 = .ok (.iinc 4 1, 3) := by decide +kernel
theorem dX7_knownTo_54 : decode cX7_knownTo 54 = .ok (.goto (-49), 3) := by decide +kernel
theorem dX7_knownTo_57 : decode cX7_knownTo 57 = .ok (.iload_n 3, 1) := by decide +kernel
theorem dX7_knownTo_58 : decode cX7_knownTo 58 = .ok (.ireturn, 1) := by decide +kernel
theorem dX7_hearTelling_0 : decode cX7_hearTelling 0 = .ok (.aload_n 2, 1) := by decide +kernel
theorem dX7_hearTelling_1 : decode cX7_hearTelling 1 = .ok (.getfield 264, 3) := by decide +kernel
theorem dX7_hearTelling_4 : decode cX7_hearTelling 4 = .ok (.istore 4, 2) := by decide +kernel
theorem dX7_hearTelling_6 : decode cX7_hearTelling 6 = .ok (.aload_n 3, 1) := by decide +kernel
theorem dX7_hearTelling_7 : decode cX7_hearTelling 7 = .ok (.getfield 440, 3) := by decide +kernel
theorem dX7_hearTelling_10 : decode cX7_hearTelling 10 = .ok (.iload 4, 2) := by decide +kernel
theorem dX7_hearTelling_12 : decode cX7_hearTelling 12 = .ok (.iaload, 1) := by decide +kernel
theorem dX7_hearTelling_13 : decode cX7_hearTelling 13 = .ok (.istore 5, 2) := by decide +kernel
theorem dX7_hearTelling_15 : decode cX7_hearTelling 15 = .ok (.aload_n 3, 1) := by decide +kernel
theorem dX7_hearTelling_16 : decode cX7_hearTelling 16 = .ok (.getfield 443, 3) := by decide +kernel
theorem dX7_hearTelling_19 : decode cX7_hearTelling 19 = .ok (.iload 4, 2) := by decide +kernel
theorem dX7_hearTelling_21 : decode cX7_hearTelling 21 = .ok (.iaload, 1) := by decide +kernel
theorem dX7_hearTelling_22 : decode cX7_hearTelling 22 = .ok (.istore 6, 2) := by decide +kernel
theorem dX7_hearTelling_24 : decode cX7_hearTelling 24 = .ok (.aload_n 2, 1) := by decide +kernel
theorem dX7_hearTelling_25 : decode cX7_hearTelling 25 = .ok (.getfield 106, 3) := by decide +kernel
theorem dX7_hearTelling_28 : decode cX7_hearTelling 28 = .ok (.iload 5, 2) := by decide +kernel
theorem dX7_hearTelling_30 : decode cX7_hearTelling 30 = .ok (.invokevirtual 39, 3) := by decide +kernel
theorem dX7_hearTelling_33 : decode cX7_hearTelling 33 = .ok (.ifCond .ne 14, 3) := by decide +kernel
theorem dX7_hearTelling_36 : decode cX7_hearTelling 36 = .ok (.aload_n 0, 1) := by decide +kernel
theorem dX7_hearTelling_37 : decode cX7_hearTelling 37 = .ok (.dup, 1) := by decide +kernel
theorem dX7_hearTelling_38 : decode cX7_hearTelling 38 = .ok (.getfield 235, 3) := by decide +kernel
theorem dX7_hearTelling_41 : decode cX7_hearTelling 41 = .ok (.iconst 1, 1) := by decide +kernel
theorem dX7_hearTelling_42 : decode cX7_hearTelling 42 = .ok (.iadd, 1) := by decide +kernel
theorem dX7_hearTelling_43 : decode cX7_hearTelling 43 = .ok (.putfield 235, 3) := by decide +kernel
theorem dX7_hearTelling_46 : decode cX7_hearTelling 46 = .ok (.return_, 1) := by decide +kernel
theorem dX7_hearTelling_47 : decode cX7_hearTelling 47 = .ok (.aload_n 0, 1) := by decide +kernel
theorem dX7_hearTelling_48 : decode cX7_hearTelling 48 = .ok (.aload_n 1, 1) := by decide +kernel
theorem dX7_hearTelling_49 : decode cX7_hearTelling 49 = .ok (.aload_n 2, 1) := by decide +kernel
theorem dX7_hearTelling_50 : decode cX7_hearTelling 50 = .ok (.iload 5, 2) := by decide +kernel
theorem dX7_hearTelling_52 : decode cX7_hearTelling 52 = .ok (.iconst 1, 1) := by decide +kernel
theorem dX7_hearTelling_53 : decode cX7_hearTelling 53 = .ok (.invokevirtual 406, 3) := by decide +kernel
theorem dX7_hearTelling_56 : decode cX7_hearTelling 56 = .ok (.iconst 2, 1) := by decide +kernel
theorem dX7_hearTelling_57 : decode cX7_hearTelling 57 = .ok (.iload 6, 2) := by decide +kernel
theorem dX7_hearTelling_59 : decode cX7_hearTelling 59 = .ok (.imul, 1) := by decide +kernel
theorem dX7_hearTelling_60 : decode cX7_hearTelling 60 = .ok (.aload_n 2, 1) := by decide +kernel
theorem dX7_hearTelling_61 : decode cX7_hearTelling 61 = .ok (.getfield 335, 3) := by decide +kernel
theorem dX7_hearTelling_64 : decode cX7_hearTelling 64 = .ok (.if_icmp .lt 12, 3) := by decide +kernel
theorem dX7_hearTelling_67 : decode cX7_hearTelling 67 = .ok (.aload_n 1, 1) := by decide +kernel
theorem dX7_hearTelling_68 : decode cX7_hearTelling 68 = .ok (.getfield 143, 3) := by decide +kernel
theorem dX7_hearTelling_71 : decode cX7_hearTelling 71 = .ok (.iload 4, 2) := by decide +kernel
theorem dX7_hearTelling_73 : decode cX7_hearTelling 73 = .ok (.invokevirtual 330, 3) := by decide +kernel
theorem dX7_hearTelling_76 : decode cX7_hearTelling 76 = .ok (.aload_n 2, 1) := by decide +kernel
theorem dX7_hearTelling_77 : decode cX7_hearTelling 77 = .ok (.getfield 106, 3) := by decide +kernel
theorem dX7_hearTelling_80 : decode cX7_hearTelling 80 = .ok (.aload_n 1, 1) := by decide +kernel
theorem dX7_hearTelling_81 : decode cX7_hearTelling 81 = .ok (.if_acmp .ne 4, 3) := by decide +kernel
theorem dX7_hearTelling_84 : decode cX7_hearTelling 84 = .ok (.return_, 1) := by decide +kernel
theorem dX7_hearTelling_85 : decode cX7_hearTelling 85 = .ok (.aload_n 0, 1) := by decide +kernel
theorem dX7_hearTelling_86 : decode cX7_hearTelling 86 = .ok (.aload_n 1, 1) := by decide +kernel
theorem dX7_hearTelling_87 : decode cX7_hearTelling 87 = .ok (.getfield 134, 3) := by decide +kernel
theorem dX7_hearTelling_90 : decode cX7_hearTelling 90 = .ok (.aload_n 2, 1) := by decide +kernel
theorem dX7_hearTelling_91 : decode cX7_hearTelling 91 = .ok (.iload 5, 2) := by decide +kernel
theorem dX7_hearTelling_93 : decode cX7_hearTelling 93 = .ok (.invokevirtual 446, 3) := by decide +kernel
theorem dX7_hearTelling_96 : decode cX7_hearTelling 96 = .ok (.astore 7, 2) := by decide +kernel
theorem dX7_hearTelling_98 : decode cX7_hearTelling 98 = .ok (.aload 7, 2) := by decide +kernel
theorem dX7_hearTelling_100 : decode cX7_hearTelling 100 = .ok (.ifnull 24, 3) := by decide +kernel
theorem dX7_hearTelling_103 : decode cX7_hearTelling 103 = .ok (.aload_n 0, 1) := by decide +kernel
theorem dX7_hearTelling_104 : decode cX7_hearTelling 104 = .ok (.aload 7, 2) := by decide +kernel
theorem dX7_hearTelling_106 : decode cX7_hearTelling 106 = .ok (.aload_n 2, 1) := by decide +kernel
theorem dX7_hearTelling_107 : decode cX7_hearTelling 107 = .ok (.invokevirtual 450, 3) := by decide +kernel
theorem dX7_hearTelling_110 : decode cX7_hearTelling 110 = .ok (.ifCond .eq 14, 3) := by decide +kernel
theorem dX7_hearTelling_113 : decode cX7_hearTelling 113 = .ok (.aload_n 0, 1) := by decide +kernel
theorem dX7_hearTelling_114 : decode cX7_hearTelling 114 = .ok (.dup, 1) := by decide +kernel
theorem dX7_hearTelling_115 : decode cX7_hearTelling 115 = .ok (.getfield 238, 3) := by decide +kernel
theorem dX7_hearTelling_118 : decode cX7_hearTelling 118 = .ok (.iconst 1, 1) := by decide +kernel
theorem dX7_hearTelling_119 : decode cX7_hearTelling 119 = .ok (.iadd, 1) := by decide +kernel
theorem dX7_hearTelling_120 : decode cX7_hearTelling 120 = .ok (.putfield 238, 3) := by decide +kernel
theorem dX7_hearTelling_123 : decode cX7_hearTelling 123 = .ok (.return_, 1) := by decide +kernel
theorem dX7_hearTelling_124 : decode cX7_hearTelling 124 = .ok (.aload 7, 2) := by decide +kernel
theorem dX7_hearTelling_126 : decode cX7_hearTelling 126 = .ok (.ifnull 15, 3) := by decide +kernel
theorem dX7_hearTelling_129 : decode cX7_hearTelling 129 = .ok (.aload_n 1, 1) := by decide +kernel
theorem dX7_hearTelling_130 : decode cX7_hearTelling 130 = .ok (.getfield 134, 3) := by decide +kernel
theorem dX7_hearTelling_133 : decode cX7_hearTelling 133 = .ok (.aload 7, 2) := by decide +kernel
theorem dX7_hearTelling_135 : decode cX7_hearTelling 135 = .ok (.getfield 264, 3) := by decide +kernel
theorem dX7_hearTelling_138 : decode cX7_hearTelling 138 = .ok (.invokevirtual 454, 3) := by decide +kernel
theorem dX7_hearTelling_141 : decode cX7_hearTelling 141 = .ok (.aload_n 1, 1) := by decide +kernel
theorem dX7_hearTelling_142 : decode cX7_hearTelling 142 = .ok (.getfield 134, 3) := by decide +kernel
theorem dX7_hearTelling_145 : decode cX7_hearTelling 145 = .ok (.iload 4, 2) := by decide +kernel
theorem dX7_hearTelling_147 : decode cX7_hearTelling 147 = .ok (.iload 5, 2) := by decide +kernel
theorem dX7_hearTelling_149 : decode cX7_hearTelling 149 = .ok (.aload_n 3, 1) := by decide +kernel
theorem dX7_hearTelling_150 : decode cX7_hearTelling 150 = .ok (.getfield 455, 3) := by decide +kernel
theorem dX7_hearTelling_153 : decode cX7_hearTelling 153 = .ok (.iload 4, 2) := by decide +kernel
theorem dX7_hearTelling_155 : decode cX7_hearTelling 155 = .ok (.iaload, 1) := by decide +kernel
theorem dX7_hearTelling_156 : decode cX7_hearTelling 156 = .ok (.iload 6, 2) := by decide +kernel
theorem dX7_hearTelling_158 : decode cX7_hearTelling 158 = .ok (.aload_n 0, 1) := by decide +kernel
theorem dX7_hearTelling_159 : decode cX7_hearTelling 159 = .ok (.getfield 62, 3) := by decide +kernel
theorem dX7_hearTelling_162 : decode cX7_hearTelling 162 = .ok (.iconst 1, 1) := by decide +kernel
theorem dX7_hearTelling_163 : decode cX7_hearTelling 163 = .ok (.iadd, 1) := by decide +kernel
theorem dX7_hearTelling_164 : decode cX7_hearTelling 164 = .ok (.iload 6, 2) := by decide +kernel
theorem dX7_hearTelling_166 : decode cX7_hearTelling 166 = .ok (.iadd, 1) := by decide +kernel
theorem dX7_hearTelling_167 : decode cX7_hearTelling 167 = .ok (.invokevirtual 458, 3) := by decide +kernel
theorem dX7_hearTelling_170 : decode cX7_hearTelling 170 = .ok (.return_, 1) := by decide +kernel
theorem dX7_otherRecorded_0 : decode cX7_otherRecorded 0 = .ok (.iconst 0, 1) := by decide +kernel
theorem dX7_otherRecorded_1 : decode cX7_otherRecorded 1 = .ok (.istore 4, 2) := by decide +kernel
theorem dX7_otherRecorded_3 : decode cX7_otherRecorded 3 = .ok (.iload 4, 2) := by decide +kernel
theorem dX7_otherRecorded_5 : decode cX7_otherRecorded 5 = .ok (.aload_n 0, 1) := by decide +kernel
theorem dX7_otherRecorded_6 : decode cX7_otherRecorded 6 = .ok (.getfield 103, 3) := by decide +kernel
theorem dX7_otherRecorded_9 : decode cX7_otherRecorded 9 = .ok (.if_icmp .ge 46, 3) := by decide +kernel
theorem dX7_otherRecorded_12 : decode cX7_otherRecorded 12 = .ok (.aload_n 1, 1) := by decide +kernel
theorem dX7_otherRecorded_13 : decode cX7_otherRecorded 13 = .ok (.getfield 184, 3) := by decide +kernel
theorem dX7_otherRecorded_16 : decode cX7_otherRecorded 16 = .ok (.iload 4, 2) := by decide +kernel
theorem dX7_otherRecorded_18 : decode cX7_otherRecorded 18 = .ok (.iaload, 1) := by decide +kernel
theorem dX7_otherRecorded_19 : decode cX7_otherRecorded 19 = .ok (.iload_n 3, 1) := by decide +kernel
theorem dX7_otherRecorded_20 : decode cX7_otherRecorded 20 = .ok (.if_icmp .ne 29, 3) := by decide +kernel
theorem dX7_otherRecorded_23 : decode cX7_otherRecorded 23 = .ok (.iload 4, 2) := by decide +kernel
theorem dX7_otherRecorded_25 : decode cX7_otherRecorded 25 = .ok (.aload_n 2, 1) := by decide +kernel
theorem dX7_otherRecorded_26 : decode cX7_otherRecorded 26 = .ok (.getfield 264, 3) := by decide +kernel
theorem dX7_otherRecorded_29 : decode cX7_otherRecorded 29 = .ok (.if_icmp .eq 20, 3) := by decide +kernel
theorem dX7_otherRecorded_32 : decode cX7_otherRecorded 32 = .ok (.aload_n 1, 1) := by decide +kernel
theorem dX7_otherRecorded_33 : decode cX7_otherRecorded 33 = .ok (.iload 4, 2) := by decide +kernel
theorem dX7_otherRecorded_35 : decode cX7_otherRecorded 35 = .ok (.invokevirtual 191, 3) := by decide +kernel
theorem dX7_otherRecorded_38 : decode cX7_otherRecorded 38 = .ok (.ifCond .eq 11, 3) := by decide +kernel
theorem dX7_otherRecorded_41 : decode cX7_otherRecorded 41 = .ok (.aload_n 0, 1) := by decide +kernel
theorem dX7_otherRecorded_42 : decode cX7_otherRecorded 42 = .ok (.getfield 17, 3) := by decide +kernel
theorem dX7_otherRecorded_45 : decode cX7_otherRecorded 45 = .ok (.iload 4, 2) := by decide +kernel
theorem dX7_otherRecorded_47 : decode cX7_otherRecorded 47 = .ok (.aaload, 1) := by decide +kernel
theorem dX7_otherRecorded_48 : decode cX7_otherRecorded 48 = .ok (.areturn, 1) := by decide +kernel
theorem dX7_otherRecorded_49 : decode cX7_otherRecorded 49 = .ok (.iinc 4 1, 3) := by decide +kernel
theorem dX7_otherRecorded_52 : decode cX7_otherRecorded 52 = .ok (.goto (-49), 3) := by decide +kernel
theorem dX7_otherRecorded_55 : decode cX7_otherRecorded 55 = .ok (.aconst_null, 1) := by decide +kernel
theorem dX7_otherRecorded_56 : decode cX7_otherRecorded 56 = .ok (.areturn, 1) := by decide +kernel
theorem dX7_contend_0 : decode cX7_contend 0 = .ok (.iconst 0, 1) := by decide +kernel
theorem dX7_contend_1 : decode cX7_contend 1 = .ok (.istore 5, 2) := by decide +kernel
theorem dX7_contend_3 : decode cX7_contend 3 = .ok (.iload 5, 2) := by decide +kernel
theorem dX7_contend_5 : decode cX7_contend 5 = .ok (.aload_n 0, 1) := by decide +kernel
theorem dX7_contend_6 : decode cX7_contend 6 = .ok (.getfield 103, 3) := by decide +kernel
theorem dX7_contend_9 : decode cX7_contend 9 = .ok (.if_icmp .ge 152, 3) := by decide +kernel
theorem dX7_contend_12 : decode cX7_contend 12 = .ok (.aload_n 0, 1) := by decide +kernel
theorem dX7_contend_13 : decode cX7_contend 13 = .ok (.getfield 17, 3) := by decide +kernel
theorem dX7_contend_16 : decode cX7_contend 16 = .ok (.iload 5, 2) := by decide +kernel
theorem dX7_contend_18 : decode cX7_contend 18 = .ok (.aaload, 1) := by decide +kernel
theorem dX7_contend_19 : decode cX7_contend 19 = .ok (.astore 6, 2) := by decide +kernel
theorem dX7_contend_21 : decode cX7_contend 21 = .ok (.aload 6, 2) := by decide +kernel
theorem dX7_contend_23 : decode cX7_contend 23 = .ok (.getfield 201, 3) := by decide +kernel
theorem dX7_contend_26 : decode cX7_contend 26 = .ok (.iload_n 3, 1) := by decide +kernel
theorem dX7_contend_27 : decode cX7_contend 27 = .ok (.if_icmp .ne 21, 3) := by decide +kernel
theorem dX7_contend_30 : decode cX7_contend 30 = .ok (.aload 6, 2) := by decide +kernel
theorem dX7_contend_32 : decode cX7_contend 32 = .ok (.aload_n 2, 1) := by decide +kernel
theorem dX7_contend_33 : decode cX7_contend 33 = .ok (.if_acmp .eq 15, 3) := by decide +kernel
theorem dX7_contend_36 : decode cX7_contend 36 = .ok (.aload 6, 2) := by decide +kernel
theorem dX7_contend_38 : decode cX7_contend 38 = .ok (.getfield 265, 3) := by decide +kernel
theorem dX7_contend_41 : decode cX7_contend 41 = .ok (.ifCond .ne 7, 3) := by decide +kernel
theorem dX7_contend_44 : decode cX7_contend 44 = .ok (.iconst 1, 1) := by decide +kernel
theorem dX7_contend_45 : decode cX7_contend 45 = .ok (.goto 4, 3) := by decide +kernel
theorem dX7_contend_48 : decode cX7_contend 48 = .ok (.iconst 0, 1) := by decide +kernel
theorem dX7_contend_49 : decode cX7_contend 49 = .ok (.istore 7, 2) := by decide +kernel
theorem dX7_contend_51 : decode cX7_contend 51 = .ok (.iload 7, 2) := by decide +kernel
theorem dX7_contend_53 : decode cX7_contend 53 = .ok (.ifCond .eq 102, 3) := by decide +kernel
theorem dX7_contend_56 : decode cX7_contend 56 = .ok (.aload_n 0, 1) := by decide +kernel
theorem dX7_contend_57 : decode cX7_contend 57 = .ok (.aload_n 1, 1) := by decide +kernel
theorem dX7_contend_58 : decode cX7_contend 58 = .ok (.aload 6, 2) := by decide +kernel
theorem dX7_contend_60 : decode cX7_contend 60 = .ok (.invokevirtual 331, 3) := by decide +kernel
theorem dX7_contend_63 : decode cX7_contend 63 = .ok (.ifCond .eq 92, 3) := by decide +kernel
theorem dX7_contend_66 : decode cX7_contend 66 = .ok (.aload_n 0, 1) := by decide +kernel
theorem dX7_contend_67 : decode cX7_contend 67 = .ok (.aload_n 2, 1) := by decide +kernel
theorem dX7_contend_68 : decode cX7_contend 68 = .ok (.aload 6, 2) := by decide +kernel
theorem dX7_contend_70 : decode cX7_contend 70 = .ok (.invokevirtual 450, 3) := by decide +kernel
theorem dX7_contend_73 : decode cX7_contend 73 = .ok (.istore 8, 2) := by decide +kernel
theorem dX7_contend_75 : decode cX7_contend 75 = .ok (.aload 6, 2) := by decide +kernel
theorem dX7_contend_77 : decode cX7_contend 77 = .ok (.getfield 59, 3) := by decide +kernel
theorem dX7_contend_80 : decode cX7_contend 80 = .ok (.iconst 1, 1) := by decide +kernel
theorem dX7_contend_81 : decode cX7_contend 81 = .ok (.if_icmp .ne 22, 3) := by decide +kernel
theorem dX7_contend_84 : decode cX7_contend 84 = .ok (.iload 4, 2) := by decide +kernel
theorem dX7_contend_86 : decode cX7_contend 86 = .ok (.ifCond .ne 8, 3) := by decide +kernel
theorem dX7_contend_89 : decode cX7_contend 89 = .ok (.iload 8, 2) := by decide +kernel
theorem dX7_contend_91 : decode cX7_contend 91 = .ok (.ifCond .eq 12, 3) := by decide +kernel
theorem dX7_contend_94 : decode cX7_contend 94 = .ok (.aload_n 0, 1) := by decide +kernel
theorem dX7_contend_95 : decode cX7_contend 95 = .ok (.aload 6, 2) := by decide +kernel
theorem dX7_contend_97 : decode cX7_contend 97 = .ok (.invokevirtual 460, 3) := by decide +kernel
theorem dX7_contend_100 : decode cX7_contend 100 = .ok (.goto 55, 3) := by decide +kernel
theorem dX7_contend_103 : decode cX7_contend 103 = .ok (.aload 6, 2) := by decide +kernel
theorem dX7_contend_105 : decode cX7_contend 105 = .ok (.getfield 59, 3) := by decide +kernel
theorem dX7_contend_108 : decode cX7_contend 108 = .ok (.iconst 2, 1) := by decide +kernel
theorem dX7_contend_109 : decode cX7_contend 109 = .ok (.if_icmp .ne 22, 3) := by decide +kernel
theorem dX7_contend_112 : decode cX7_contend 112 = .ok (.iload 4, 2) := by decide +kernel
theorem dX7_contend_114 : decode cX7_contend 114 = .ok (.ifCond .eq 17, 3) := by decide +kernel
theorem dX7_contend_117 : decode cX7_contend 117 = .ok (.iload 8, 2) := by decide +kernel
theorem dX7_contend_119 : decode cX7_contend 119 = .ok (.ifCond .eq 12, 3) := by decide +kernel
theorem dX7_contend_122 : decode cX7_contend 122 = .ok (.aload_n 0, 1) := by decide +kernel
theorem dX7_contend_123 : decode cX7_contend 123 = .ok (.aload 6, 2) := by decide +kernel
theorem dX7_contend_125 : decode cX7_contend 125 = .ok (.invokevirtual 460, 3) := by decide +kernel
theorem dX7_contend_128 : decode cX7_contend 128 = .ok (.goto 27, 3) := by decide +kernel
theorem dX7_contend_131 : decode cX7_contend 131 = .ok (.aload 6, 2) := by decide +kernel
theorem dX7_contend_133 : decode cX7_contend 133 = .ok (.getfield 59, 3) := by decide +kernel
theorem dX7_contend_136 : decode cX7_contend 136 = .ok (.iconst 2, 1) := by decide +kernel
theorem dX7_contend_137 : decode cX7_contend 137 = .ok (.if_icmp .ne 18, 3) := by decide +kernel
theorem dX7_contend_140 : decode cX7_contend 140 = .ok (.aload_n 1, 1) := by decide +kernel
theorem dX7_contend_141 : decode cX7_contend 141 = .ok (.getfield 143, 3) := by decide +kernel
theorem dX7_contend_144 : decode cX7_contend 144 = .ok (.iload 5, 2) := by decide +kernel
theorem dX7_contend_146 : decode cX7_contend 146 = .ok (.aload_n 0, 1) := by decide +kernel
theorem dX7_contend_147 : decode cX7_contend 147 = .ok (.getfield 62, 3) := by decide +kernel
theorem dX7_contend_150 : decode cX7_contend 150 = .ok (.iconst 1, 1) := by decide +kernel
theorem dX7_contend_151 : decode cX7_contend 151 = .ok (.iadd, 1) := by decide +kernel
theorem dX7_contend_152 : decode cX7_contend 152 = .ok (.invokevirtual 434, 3) := by decide +kernel
theorem dX7_contend_155 : decode cX7_contend 155 = .ok (.iinc 5 1, 3) := by decide +kernel
theorem dX7_contend_158 : decode cX7_contend 158 = .ok (.goto (-155), 3) := by decide +kernel
theorem dX7_contend_161 : decode cX7_contend 161 = .ok (.return_, 1) := by decide +kernel
theorem dX7_giveWay_0 : decode cX7_giveWay 0 = .ok (.aload_n 1, 1) := by decide +kernel
theorem dX7_giveWay_1 : decode cX7_giveWay 1 = .ok (.getfield 106, 3) := by decide +kernel
theorem dX7_giveWay_4 : decode cX7_giveWay 4 = .ok (.astore_n 2, 1) := by decide +kernel
theorem dX7_giveWay_5 : decode cX7_giveWay 5 = .ok (.aload_n 1, 1) := by decide +kernel
theorem dX7_giveWay_6 : decode cX7_giveWay 6 = .ok (.getfield 201, 3) := by decide +kernel
theorem dX7_giveWay_9 : decode cX7_giveWay 9 = .ok (.istore_n 3, 1) := by decide +kernel
theorem dX7_giveWay_10 : decode cX7_giveWay 10 = .ok (.aload_n 1, 1) := by decide +kernel
theorem dX7_giveWay_11 : decode cX7_giveWay 11 = .ok (.getfield 201, 3) := by decide +kernel
theorem dX7_giveWay_14 : decode cX7_giveWay 14 = .ok (.istore 4, 2) := by decide +kernel
theorem dX7_giveWay_16 : decode cX7_giveWay 16 = .ok (.aload_n 2, 1) := by decide +kernel
theorem dX7_giveWay_17 : decode cX7_giveWay 17 = .ok (.getfield 464, 3) := by decide +kernel
theorem dX7_giveWay_20 : decode cX7_giveWay 20 = .ok (.istore 5, 2) := by decide +kernel
theorem dX7_giveWay_22 : decode cX7_giveWay 22 = .ok (.iload 5, 2) := by decide +kernel
theorem dX7_giveWay_24 : decode cX7_giveWay 24 = .ok (.aload_n 2, 1) := by decide +kernel
theorem dX7_giveWay_25 : decode cX7_giveWay 25 = .ok (.getfield 467, 3) := by decide +kernel
theorem dX7_giveWay_28 : decode cX7_giveWay 28 = .ok (.if_icmp .ge 52, 3) := by decide +kernel
theorem dX7_giveWay_31 : decode cX7_giveWay 31 = .ok (.iload_n 3, 1) := by decide +kernel
theorem dX7_giveWay_32 : decode cX7_giveWay 32 = .ok (.aload_n 1, 1) := by decide +kernel
theorem dX7_giveWay_33 : decode cX7_giveWay 33 = .ok (.getfield 201, 3) := by decide +kernel
theorem dX7_giveWay_36 : decode cX7_giveWay 36 = .ok (.if_icmp .ne 44, 3) := by decide +kernel
theorem dX7_giveWay_39 : decode cX7_giveWay 39 = .ok (.iload 4, 2) := by decide +kernel
theorem dX7_giveWay_41 : decode cX7_giveWay 41 = .ok (.aload_n 2, 1) := by decide +kernel
theorem dX7_giveWay_42 : decode cX7_giveWay 42 = .ok (.getfield 467, 3) := by decide +kernel
theorem dX7_giveWay_45 : decode cX7_giveWay 45 = .ok (.if_icmp .ne 10, 3) := by decide +kernel
theorem dX7_giveWay_48 : decode cX7_giveWay 48 = .ok (.aload_n 2, 1) := by decide +kernel
theorem dX7_giveWay_49 : decode cX7_giveWay 49 = .ok (.getfield 464, 3) := by decide +kernel
theorem dX7_giveWay_52 : decode cX7_giveWay 52 = .ok (.goto 7, 3) := by decide +kernel
theorem dX7_giveWay_55 : decode cX7_giveWay 55 = .ok (.iload 4, 2) := by decide +kernel
theorem dX7_giveWay_57 : decode cX7_giveWay 57 = .ok (.iconst 1, 1) := by decide +kernel
theorem dX7_giveWay_58 : decode cX7_giveWay 58 = .ok (.iadd, 1) := by decide +kernel
theorem dX7_giveWay_59 : decode cX7_giveWay 59 = .ok (.istore 4, 2) := by decide +kernel
theorem dX7_giveWay_61 : decode cX7_giveWay 61 = .ok (.aload_n 0, 1) := by decide +kernel
theorem dX7_giveWay_62 : decode cX7_giveWay 62 = .ok (.aload_n 2, 1) := by decide +kernel
theorem dX7_giveWay_63 : decode cX7_giveWay 63 = .ok (.iload 4, 2) := by decide +kernel
theorem dX7_giveWay_65 : decode cX7_giveWay 65 = .ok (.invokevirtual 253, 3) := by decide +kernel
theorem dX7_giveWay_68 : decode cX7_giveWay 68 = .ok (.ifCond .ne 6, 3) := by decide +kernel
theorem dX7_giveWay_71 : decode cX7_giveWay 71 = .ok (.iload 4, 2) := by decide +kernel
theorem dX7_giveWay_73 : decode cX7_giveWay 73 = .ok (.istore_n 3, 1) := by decide +kernel
theorem dX7_giveWay_74 : decode cX7_giveWay 74 = .ok (.iinc 5 1, 3) := by decide +kernel
theorem dX7_giveWay_77 : decode cX7_giveWay 77 = .ok (.goto (-55), 3) := by decide +kernel
theorem dX7_giveWay_80 : decode cX7_giveWay 80 = .ok (.aload_n 1, 1) := by decide +kernel
theorem dX7_giveWay_81 : decode cX7_giveWay 81 = .ok (.iload_n 3, 1) := by decide +kernel
theorem dX7_giveWay_82 : decode cX7_giveWay 82 = .ok (.invokevirtual 470, 3) := by decide +kernel
theorem dX7_giveWay_85 : decode cX7_giveWay 85 = .ok (.aload_n 0, 1) := by decide +kernel
theorem dX7_giveWay_86 : decode cX7_giveWay 86 = .ok (.dup, 1) := by decide +kernel
theorem dX7_giveWay_87 : decode cX7_giveWay 87 = .ok (.getfield 232, 3) := by decide +kernel
theorem dX7_giveWay_90 : decode cX7_giveWay 90 = .ok (.iconst 1, 1) := by decide +kernel
theorem dX7_giveWay_91 : decode cX7_giveWay 91 = .ok (.iadd, 1) := by decide +kernel
theorem dX7_giveWay_92 : decode cX7_giveWay 92 = .ok (.putfield 232, 3) := by decide +kernel
theorem dX7_giveWay_95 : decode cX7_giveWay 95 = .ok (.aload_n 0, 1) := by decide +kernel
theorem dX7_giveWay_96 : decode cX7_giveWay 96 = .ok (.aload_n 2, 1) := by decide +kernel
theorem dX7_giveWay_97 : decode cX7_giveWay 97 = .ok (.invokevirtual 118, 3) := by decide +kernel
theorem dX7_giveWay_100 : decode cX7_giveWay 100 = .ok (.return_, 1) := by decide +kernel
theorem dX7_forgetWhatEnds_0 : decode cX7_forgetWhatEnds 0 = .ok (.iconst 0, 1) := by decide +kernel
theorem dX7_forgetWhatEnds_1 : decode cX7_forgetWhatEnds 1 = .ok (.istore_n 1, 1) := by decide +kernel
theorem dX7_forgetWhatEnds_2 : decode cX7_forgetWhatEnds 2 = .ok (.iload_n 1, 1) := by decide +kernel
theorem dX7_forgetWhatEnds_3 : decode cX7_forgetWhatEnds 3 = .ok (.aload_n 0, 1) := by decide +kernel
theorem dX7_forgetWhatEnds_4 : decode cX7_forgetWhatEnds 4 = .ok (.getfield 25, 3) := by decide +kernel
theorem dX7_forgetWhatEnds_7 : decode cX7_forgetWhatEnds 7 = .ok (.if_icmp .ge 27, 3) := by decide +kernel
theorem dX7_forgetWhatEnds_10 : decode cX7_forgetWhatEnds 10 = .ok (.aload_n 0, 1) := by decide +kernel
theorem dX7_forgetWhatEnds_11 : decode cX7_forgetWhatEnds 11 = .ok (.getfield 11, 3) := by decide +kernel
theorem dX7_forgetWhatEnds_14 : decode cX7_forgetWhatEnds 14 = .ok (.iload_n 1, 1) := by decide +kernel
theorem dX7_forgetWhatEnds_15 : decode cX7_forgetWhatEnds 15 = .ok (.aaload, 1) := by decide +kernel
theorem dX7_forgetWhatEnds_16 : decode cX7_forgetWhatEnds 16 = .ok (.getfield 134, 3) := by decide +kernel
theorem dX7_forgetWhatEnds_19 : decode cX7_forgetWhatEnds 19 = .ok (.aload_n 0, 1) := by decide +kernel
theorem dX7_forgetWhatEnds_20 : decode cX7_forgetWhatEnds 20 = .ok (.getfield 62, 3) := by decide +kernel
theorem dX7_forgetWhatEnds_23 : decode cX7_forgetWhatEnds 23 = .ok (.iconst 1, 1) := by decide +kernel
theorem dX7_forgetWhatEnds_24 : decode cX7_forgetWhatEnds 24 = .ok (.iadd, 1) := by decide +kernel
theorem dX7_forgetWhatEnds_25 : decode cX7_forgetWhatEnds 25 = .ok (.invokevirtual 473, 3) := by decide +kernel
theorem dX7_forgetWhatEnds_28 : decode cX7_forgetWhatEnds 28 = .ok (.iinc 1 1, 3) := by decide +kernel
theorem dX7_forgetWhatEnds_31 : decode cX7_forgetWhatEnds 31 = .ok (.goto (-29), 3) := by decide +kernel
theorem dX7_forgetWhatEnds_34 : decode cX7_forgetWhatEnds 34 = .ok (.return_, 1) := by decide +kernel
theorem dX7_isIn_0 : decode cX7_isIn 0 = .ok (.iload_n 0, 1) := by decide +kernel
theorem dX7_isIn_1 : decode cX7_isIn 1 = .ok (.iload_n 1, 1) := by decide +kernel
theorem dX7_isIn_2 : decode cX7_isIn 2 = .ok (.iushr, 1) := by decide +kernel
theorem dX7_isIn_3 : decode cX7_isIn 3 = .ok (.iconst 1, 1) := by decide +kernel
theorem dX7_isIn_4 : decode cX7_isIn 4 = .ok (.iand, 1) := by decide +kernel
theorem dX7_isIn_5 : decode cX7_isIn 5 = .ok (.ifCond .eq 7, 3) := by decide +kernel
theorem dX7_isIn_8 : decode cX7_isIn 8 = .ok (.iconst 1, 1) := by decide +kernel
theorem dX7_isIn_9 : decode cX7_isIn 9 = .ok (.goto 4, 3) := by decide +kernel
theorem dX7_isIn_12 : decode cX7_isIn 12 = .ok (.iconst 0, 1) := by decide +kernel
theorem dX7_isIn_13 : decode cX7_isIn 13 = .ok (.ireturn, 1) := by decide +kernel
theorem dJ6_bitCount_0f7a4_0 : decode cJ6_bitCount_0f7a4 0 = .ok (.iload_n 0, 1) := by decide +kernel
theorem dJ6_bitCount_0f7a4_1 : decode cJ6_bitCount_0f7a4 1 = .ok (.iload_n 0, 1) := by decide +kernel
theorem dJ6_bitCount_0f7a4_2 : decode cJ6_bitCount_0f7a4 2 = .ok (.iconst 1, 1) := by decide +kernel
theorem dJ6_bitCount_0f7a4_3 : decode cJ6_bitCount_0f7a4 3 = .ok (.iushr, 1) := by decide +kernel
theorem dJ6_bitCount_0f7a4_4 : decode cJ6_bitCount_0f7a4 4 = .ok (.ldc_w 265, 3) := by decide +kernel
theorem dJ6_bitCount_0f7a4_7 : decode cJ6_bitCount_0f7a4 7 = .ok (.iand, 1) := by decide +kernel
theorem dJ6_bitCount_0f7a4_8 : decode cJ6_bitCount_0f7a4 8 = .ok (.isub, 1) := by decide +kernel
theorem dJ6_bitCount_0f7a4_9 : decode cJ6_bitCount_0f7a4 9 = .ok (.istore_n 0, 1) := by decide +kernel
theorem dJ6_bitCount_0f7a4_10 : decode cJ6_bitCount_0f7a4 10 = .ok (.iload_n 0, 1) := by decide +kernel
theorem dJ6_bitCount_0f7a4_11 : decode cJ6_bitCount_0f7a4 11 = .ok (.ldc_w 266, 3) := by decide +kernel
theorem dJ6_bitCount_0f7a4_14 : decode cJ6_bitCount_0f7a4 14 = .ok (.iand, 1) := by decide +kernel
theorem dJ6_bitCount_0f7a4_15 : decode cJ6_bitCount_0f7a4 15 = .ok (.iload_n 0, 1) := by decide +kernel
theorem dJ6_bitCount_0f7a4_16 : decode cJ6_bitCount_0f7a4 16 = .ok (.iconst 2, 1) := by decide +kernel
theorem dJ6_bitCount_0f7a4_17 : decode cJ6_bitCount_0f7a4 17 = .ok (.iushr, 1) := by decide +kernel
theorem dJ6_bitCount_0f7a4_18 : decode cJ6_bitCount_0f7a4 18 = .ok (.ldc_w 266, 3) := by decide +kernel
theorem dJ6_bitCount_0f7a4_21 : decode cJ6_bitCount_0f7a4 21 = .ok (.iand, 1) := by decide +kernel
theorem dJ6_bitCount_0f7a4_22 : decode cJ6_bitCount_0f7a4 22 = .ok (.iadd, 1) := by decide +kernel
theorem dJ6_bitCount_0f7a4_23 : decode cJ6_bitCount_0f7a4 23 = .ok (.istore_n 0, 1) := by decide +kernel
theorem dJ6_bitCount_0f7a4_24 : decode cJ6_bitCount_0f7a4 24 = .ok (.iload_n 0, 1) := by decide +kernel
theorem dJ6_bitCount_0f7a4_25 : decode cJ6_bitCount_0f7a4 25 = .ok (.iload_n 0, 1) := by decide +kernel
theorem dJ6_bitCount_0f7a4_26 : decode cJ6_bitCount_0f7a4 26 = .ok (.iconst 4, 1) := by decide +kernel
theorem dJ6_bitCount_0f7a4_27 : decode cJ6_bitCount_0f7a4 27 = .ok (.iushr, 1) := by decide +kernel
theorem dJ6_bitCount_0f7a4_28 : decode cJ6_bitCount_0f7a4 28 = .ok (.iadd, 1) := by decide +kernel
theorem dJ6_bitCount_0f7a4_29 : decode cJ6_bitCount_0f7a4 29 = .ok (.ldc_w 267, 3) := by decide +kernel
theorem dJ6_bitCount_0f7a4_32 : decode cJ6_bitCount_0f7a4 32 = .ok (.iand, 1) := by decide +kernel
theorem dJ6_bitCount_0f7a4_33 : decode cJ6_bitCount_0f7a4 33 = .ok (.istore_n 0, 1) := by decide +kernel
theorem dJ6_bitCount_0f7a4_34 : decode cJ6_bitCount_0f7a4 34 = .ok (.iload_n 0, 1) := by decide +kernel
theorem dJ6_bitCount_0f7a4_35 : decode cJ6_bitCount_0f7a4 35 = .ok (.iload_n 0, 1) := by decide +kernel
theorem dJ6_bitCount_0f7a4_36 : decode cJ6_bitCount_0f7a4 36 = .ok (.bipush 8, 2) := by decide +kernel
theorem dJ6_bitCount_0f7a4_38 : decode cJ6_bitCount_0f7a4 38 = .ok (.iushr, 1) := by decide +kernel
theorem dJ6_bitCount_0f7a4_39 : decode cJ6_bitCount_0f7a4 39 = .ok (.iadd, 1) := by decide +kernel
theorem dJ6_bitCount_0f7a4_40 : decode cJ6_bitCount_0f7a4 40 = .ok (.istore_n 0, 1) := by decide +kernel
theorem dJ6_bitCount_0f7a4_41 : decode cJ6_bitCount_0f7a4 41 = .ok (.iload_n 0, 1) := by decide +kernel
theorem dJ6_bitCount_0f7a4_42 : decode cJ6_bitCount_0f7a4 42 = .ok (.iload_n 0, 1) := by decide +kernel
theorem dJ6_bitCount_0f7a4_43 : decode cJ6_bitCount_0f7a4 43 = .ok (.bipush 16, 2) := by decide +kernel
theorem dJ6_bitCount_0f7a4_45 : decode cJ6_bitCount_0f7a4 45 = .ok (.iushr, 1) := by decide +kernel
theorem dJ6_bitCount_0f7a4_46 : decode cJ6_bitCount_0f7a4 46 = .ok (.iadd, 1) := by decide +kernel
theorem dJ6_bitCount_0f7a4_47 : decode cJ6_bitCount_0f7a4 47 = .ok (.istore_n 0, 1) := by decide +kernel
theorem dJ6_bitCount_0f7a4_48 : decode cJ6_bitCount_0f7a4 48 = .ok (.iload_n 0, 1) := by decide +kernel
theorem dJ6_bitCount_0f7a4_49 : decode cJ6_bitCount_0f7a4 49 = .ok (.bipush 63, 2) := by decide +kernel
theorem dJ6_bitCount_0f7a4_51 : decode cJ6_bitCount_0f7a4 51 = .ok (.iand, 1) := by decide +kernel
theorem dJ6_bitCount_0f7a4_52 : decode cJ6_bitCount_0f7a4 52 = .ok (.ireturn, 1) := by decide +kernel
end
