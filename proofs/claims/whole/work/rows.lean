section
-- ===== PART A: goes FIRST, ahead of the names: the tables' words, and 'selects' of the private methods out of them =====
/-- a private method of a class that the tables say can be made, by its rows of tables_1 -/
def lw_okq (q : MethodName × Nat) : Prop := (q.1.cls ≠ "java/lang/invoke/MethodHandle" ∧ q.1.cls ≠ "java/lang/invoke/VarHandle") ∧ Cond.instantiable q.1.cls q.2 ∈ tables_1 ∧ Cond.privateMethod q.1 ∈ tables_1 ∧ Cond.instanceMethod q.1 ∈ tables_1
theorem lw_p0 : lw_okq (⟨"ShipFromItself$Text", "faultInHead", "()I"⟩, 2) := ⟨⟨by decide +kernel, by decide +kernel⟩, List.mem_of_getElem? (i := 23) (by decide +kernel), List.mem_of_getElem? (i := 243) (by decide +kernel), List.mem_of_getElem? (i := 244) (by decide +kernel)⟩
theorem lw_p1 : lw_okq (⟨"ShipFromItself$Text", "isFigure", "(III)Z"⟩, 2) := ⟨⟨by decide +kernel, by decide +kernel⟩, List.mem_of_getElem? (i := 23) (by decide +kernel), List.mem_of_getElem? (i := 251) (by decide +kernel), List.mem_of_getElem? (i := 252) (by decide +kernel)⟩
theorem lw_p2 : lw_okq (⟨"ShipFromItself$Text", "faultInPlace", "(II)I"⟩, 2) := ⟨⟨by decide +kernel, by decide +kernel⟩, List.mem_of_getElem? (i := 23) (by decide +kernel), List.mem_of_getElem? (i := 259) (by decide +kernel), List.mem_of_getElem? (i := 260) (by decide +kernel)⟩
theorem lw_p3 : lw_okq (⟨"ShipFromItself$Text", "faultInTimber", "(I)I"⟩, 2) := ⟨⟨by decide +kernel, by decide +kernel⟩, List.mem_of_getElem? (i := 23) (by decide +kernel), List.mem_of_getElem? (i := 267) (by decide +kernel), List.mem_of_getElem? (i := 268) (by decide +kernel)⟩
theorem lw_p4 : lw_okq (⟨"ShipFromItself$ActRow", "behindLast", "()I"⟩, 3) := ⟨⟨by decide +kernel, by decide +kernel⟩, List.mem_of_getElem? (i := 91) (by decide +kernel), List.mem_of_getElem? (i := 377) (by decide +kernel), List.mem_of_getElem? (i := 378) (by decide +kernel)⟩
theorem lw_p5 : lw_okq (⟨"ShipFromItself", "bringInto", "(II)I"⟩, 8) := ⟨⟨by decide +kernel, by decide +kernel⟩, List.mem_of_getElem? (i := 15) (by decide +kernel), List.mem_of_getElem? (i := 403) (by decide +kernel), List.mem_of_getElem? (i := 404) (by decide +kernel)⟩
theorem lw_p6 : lw_okq (⟨"ShipFromItself$Hull", "letWormsEat", "(LShipFromItself$Load;)V"⟩, 7) := ⟨⟨by decide +kernel, by decide +kernel⟩, List.mem_of_getElem? (i := 37) (by decide +kernel), List.mem_of_getElem? (i := 455) (by decide +kernel), List.mem_of_getElem? (i := 456) (by decide +kernel)⟩
theorem lw_p7 : lw_okq (⟨"ShipFromItself$Hull", "hangsInAir", "(ILShipFromItself$Load;)Z"⟩, 7) := ⟨⟨by decide +kernel, by decide +kernel⟩, List.mem_of_getElem? (i := 37) (by decide +kernel), List.mem_of_getElem? (i := 469) (by decide +kernel), List.mem_of_getElem? (i := 470) (by decide +kernel)⟩
theorem lw_p8 : lw_okq (⟨"ShipFromItself$Hull", "isAtRest", "(LShipFromItself$Load;)Z"⟩, 7) := ⟨⟨by decide +kernel, by decide +kernel⟩, List.mem_of_getElem? (i := 37) (by decide +kernel), List.mem_of_getElem? (i := 501) (by decide +kernel), List.mem_of_getElem? (i := 502) (by decide +kernel)⟩
theorem lw_p9 : lw_okq (⟨"ShipFromItself$Hull", "watchesAtRest", "(LShipFromItself$Load;)I"⟩, 7) := ⟨⟨by decide +kernel, by decide +kernel⟩, List.mem_of_getElem? (i := 37) (by decide +kernel), List.mem_of_getElem? (i := 505) (by decide +kernel), List.mem_of_getElem? (i := 506) (by decide +kernel)⟩
theorem lw_p10 : lw_okq (⟨"ShipFromItself", "refusalOfBest", "(I)I"⟩, 8) := ⟨⟨by decide +kernel, by decide +kernel⟩, List.mem_of_getElem? (i := 15) (by decide +kernel), List.mem_of_getElem? (i := 527) (by decide +kernel), List.mem_of_getElem? (i := 528) (by decide +kernel)⟩
theorem lw_p11 : lw_okq (⟨"ShipFromItself$Rows", "makeNextMove", "(I)Z"⟩, 5) := ⟨⟨by decide +kernel, by decide +kernel⟩, List.mem_of_getElem? (i := 146) (by decide +kernel), List.mem_of_getElem? (i := 549) (by decide +kernel), List.mem_of_getElem? (i := 550) (by decide +kernel)⟩
theorem lw_p12 : lw_okq (⟨"ShipFromItself", "refusalOfPort", "(I)I"⟩, 8) := ⟨⟨by decide +kernel, by decide +kernel⟩, List.mem_of_getElem? (i := 15) (by decide +kernel), List.mem_of_getElem? (i := 576) (by decide +kernel), List.mem_of_getElem? (i := 577) (by decide +kernel)⟩
theorem lw_p13 : lw_okq (⟨"ShipFromItself$Search", "lastMovesTo", "(ILShipFromItself$Load;)I"⟩, 5) := ⟨⟨by decide +kernel, by decide +kernel⟩, List.mem_of_getElem? (i := 140) (by decide +kernel), List.mem_of_getElem? (i := 634) (by decide +kernel), List.mem_of_getElem? (i := 635) (by decide +kernel)⟩
theorem lw_p14 : lw_okq (⟨"ShipFromItself", "timbersThatAre", "(I)I"⟩, 8) := ⟨⟨by decide +kernel, by decide +kernel⟩, List.mem_of_getElem? (i := 15) (by decide +kernel), List.mem_of_getElem? (i := 687) (by decide +kernel), List.mem_of_getElem? (i := 688) (by decide +kernel)⟩
theorem lw_p15 : lw_okq (⟨"ShipFromItselfModel", "readText", "()I"⟩, 35) := ⟨⟨by decide +kernel, by decide +kernel⟩, List.mem_of_getElem? (i := 699) (by decide +kernel), List.mem_of_getElem? (i := 828) (by decide +kernel), List.mem_of_getElem? (i := 829) (by decide +kernel)⟩
def lw_privs_1 : List (MethodName × Nat) := [(⟨"ShipFromItself$Text", "faultInHead", "()I"⟩, 2), (⟨"ShipFromItself$Text", "isFigure", "(III)Z"⟩, 2), (⟨"ShipFromItself$Text", "faultInPlace", "(II)I"⟩, 2), (⟨"ShipFromItself$Text", "faultInTimber", "(I)I"⟩, 2), (⟨"ShipFromItself$ActRow", "behindLast", "()I"⟩, 3), (⟨"ShipFromItself", "bringInto", "(II)I"⟩, 8), (⟨"ShipFromItself$Hull", "letWormsEat", "(LShipFromItself$Load;)V"⟩, 7), (⟨"ShipFromItself$Hull", "hangsInAir", "(ILShipFromItself$Load;)Z"⟩, 7), (⟨"ShipFromItself$Hull", "isAtRest", "(LShipFromItself$Load;)Z"⟩, 7), (⟨"ShipFromItself$Hull", "watchesAtRest", "(LShipFromItself$Load;)I"⟩, 7), (⟨"ShipFromItself", "refusalOfBest", "(I)I"⟩, 8), (⟨"ShipFromItself$Rows", "makeNextMove", "(I)Z"⟩, 5), (⟨"ShipFromItself", "refusalOfPort", "(I)I"⟩, 8), (⟨"ShipFromItself$Search", "lastMovesTo", "(ILShipFromItself$Load;)I"⟩, 5), (⟨"ShipFromItself", "timbersThatAre", "(I)I"⟩, 8), (⟨"ShipFromItselfModel", "readText", "()I"⟩, 35)]
theorem lw_r1 : ∀ q ∈ lw_privs_1, lw_okq q := List.forall_mem_cons.mpr ⟨lw_p0, List.forall_mem_cons.mpr ⟨lw_p1, List.forall_mem_cons.mpr ⟨lw_p2, List.forall_mem_cons.mpr ⟨lw_p3, List.forall_mem_cons.mpr ⟨lw_p4, List.forall_mem_cons.mpr ⟨lw_p5, List.forall_mem_cons.mpr ⟨lw_p6, List.forall_mem_cons.mpr ⟨lw_p7, List.forall_mem_cons.mpr ⟨lw_p8, List.forall_mem_cons.mpr ⟨lw_p9, List.forall_mem_cons.mpr ⟨lw_p10, List.forall_mem_cons.mpr ⟨lw_p11, List.forall_mem_cons.mpr ⟨lw_p12, List.forall_mem_cons.mpr ⟨lw_p13, List.forall_mem_cons.mpr ⟨lw_p14, List.forall_mem_cons.mpr ⟨lw_p15, fun _ h => absurd h List.not_mem_nil⟩⟩⟩⟩⟩⟩⟩⟩⟩⟩⟩⟩⟩⟩⟩⟩
theorem lw_p16 : lw_okq (⟨"ShipFromItselfModel", "figure", "(II)I"⟩, 35) := ⟨⟨by decide +kernel, by decide +kernel⟩, List.mem_of_getElem? (i := 699) (by decide +kernel), List.mem_of_getElem? (i := 832) (by decide +kernel), List.mem_of_getElem? (i := 833) (by decide +kernel)⟩
theorem lw_p17 : lw_okq (⟨"ShipFromItselfModel", "readPlace", "(Z)V"⟩, 35) := ⟨⟨by decide +kernel, by decide +kernel⟩, List.mem_of_getElem? (i := 699) (by decide +kernel), List.mem_of_getElem? (i := 836) (by decide +kernel), List.mem_of_getElem? (i := 837) (by decide +kernel)⟩
theorem lw_p18 : lw_okq (⟨"ShipFromItselfModel", "isPlace", "(I)Z"⟩, 35) := ⟨⟨by decide +kernel, by decide +kernel⟩, List.mem_of_getElem? (i := 699) (by decide +kernel), List.mem_of_getElem? (i := 848) (by decide +kernel), List.mem_of_getElem? (i := 849) (by decide +kernel)⟩
theorem lw_p19 : lw_okq (⟨"ShipFromItselfModel", "inside", "(II)I"⟩, 35) := ⟨⟨by decide +kernel, by decide +kernel⟩, List.mem_of_getElem? (i := 699) (by decide +kernel), List.mem_of_getElem? (i := 852) (by decide +kernel), List.mem_of_getElem? (i := 853) (by decide +kernel)⟩
theorem lw_p20 : lw_okq (⟨"ShipFromItselfModel", "canTake", "(II)Z"⟩, 35) := ⟨⟨by decide +kernel, by decide +kernel⟩, List.mem_of_getElem? (i := 699) (by decide +kernel), List.mem_of_getElem? (i := 864) (by decide +kernel), List.mem_of_getElem? (i := 865) (by decide +kernel)⟩
theorem lw_p21 : lw_okq (⟨"ShipFromItselfModel", "isBorne", "(II)Z"⟩, 35) := ⟨⟨by decide +kernel, by decide +kernel⟩, List.mem_of_getElem? (i := 699) (by decide +kernel), List.mem_of_getElem? (i := 868) (by decide +kernel), List.mem_of_getElem? (i := 869) (by decide +kernel)⟩
theorem lw_p22 : lw_okq (⟨"ShipFromItselfModel", "keepAct", "()V"⟩, 35) := ⟨⟨by decide +kernel, by decide +kernel⟩, List.mem_of_getElem? (i := 699) (by decide +kernel), List.mem_of_getElem? (i := 872) (by decide +kernel), List.mem_of_getElem? (i := 873) (by decide +kernel)⟩
theorem lw_p23 : lw_okq (⟨"ShipFromItselfModel", "canPut", "(III)Z"⟩, 35) := ⟨⟨by decide +kernel, by decide +kernel⟩, List.mem_of_getElem? (i := 699) (by decide +kernel), List.mem_of_getElem? (i := 880) (by decide +kernel), List.mem_of_getElem? (i := 881) (by decide +kernel)⟩
theorem lw_p24 : lw_okq (⟨"ShipFromItselfModel", "copy", "(II)V"⟩, 35) := ⟨⟨by decide +kernel, by decide +kernel⟩, List.mem_of_getElem? (i := 699) (by decide +kernel), List.mem_of_getElem? (i := 888) (by decide +kernel), List.mem_of_getElem? (i := 889) (by decide +kernel)⟩
theorem lw_p25 : lw_okq (⟨"ShipFromItselfModel", "goes", "(III)Z"⟩, 35) := ⟨⟨by decide +kernel, by decide +kernel⟩, List.mem_of_getElem? (i := 699) (by decide +kernel), List.mem_of_getElem? (i := 892) (by decide +kernel), List.mem_of_getElem? (i := 893) (by decide +kernel)⟩
theorem lw_p26 : lw_okq (⟨"ShipFromItselfModel", "leakOf", "(I)I"⟩, 35) := ⟨⟨by decide +kernel, by decide +kernel⟩, List.mem_of_getElem? (i := 699) (by decide +kernel), List.mem_of_getElem? (i := 900) (by decide +kernel), List.mem_of_getElem? (i := 901) (by decide +kernel)⟩
theorem lw_p27 : lw_okq (⟨"ShipFromItselfModel", "openSet", "(I)I"⟩, 35) := ⟨⟨by decide +kernel, by decide +kernel⟩, List.mem_of_getElem? (i := 699) (by decide +kernel), List.mem_of_getElem? (i := 904) (by decide +kernel), List.mem_of_getElem? (i := 905) (by decide +kernel)⟩
theorem lw_p28 : lw_okq (⟨"ShipFromItselfModel", "gnaw", "(I)V"⟩, 35) := ⟨⟨by decide +kernel, by decide +kernel⟩, List.mem_of_getElem? (i := 699) (by decide +kernel), List.mem_of_getElem? (i := 908) (by decide +kernel), List.mem_of_getElem? (i := 909) (by decide +kernel)⟩
theorem lw_p29 : lw_okq (⟨"ShipFromItselfModel", "comeDown", "(I)V"⟩, 35) := ⟨⟨by decide +kernel, by decide +kernel⟩, List.mem_of_getElem? (i := 699) (by decide +kernel), List.mem_of_getElem? (i := 912) (by decide +kernel), List.mem_of_getElem? (i := 913) (by decide +kernel)⟩
theorem lw_p30 : lw_okq (⟨"ShipFromItselfModel", "floatsOf", "(II)I"⟩, 35) := ⟨⟨by decide +kernel, by decide +kernel⟩, List.mem_of_getElem? (i := 699) (by decide +kernel), List.mem_of_getElem? (i := 928) (by decide +kernel), List.mem_of_getElem? (i := 929) (by decide +kernel)⟩
theorem lw_p31 : lw_okq (⟨"ShipFromItselfModel", "layBest", "(I)V"⟩, 35) := ⟨⟨by decide +kernel, by decide +kernel⟩, List.mem_of_getElem? (i := 699) (by decide +kernel), List.mem_of_getElem? (i := 945) (by decide +kernel), List.mem_of_getElem? (i := 946) (by decide +kernel)⟩
def lw_privs_2 : List (MethodName × Nat) := [(⟨"ShipFromItselfModel", "figure", "(II)I"⟩, 35), (⟨"ShipFromItselfModel", "readPlace", "(Z)V"⟩, 35), (⟨"ShipFromItselfModel", "isPlace", "(I)Z"⟩, 35), (⟨"ShipFromItselfModel", "inside", "(II)I"⟩, 35), (⟨"ShipFromItselfModel", "canTake", "(II)Z"⟩, 35), (⟨"ShipFromItselfModel", "isBorne", "(II)Z"⟩, 35), (⟨"ShipFromItselfModel", "keepAct", "()V"⟩, 35), (⟨"ShipFromItselfModel", "canPut", "(III)Z"⟩, 35), (⟨"ShipFromItselfModel", "copy", "(II)V"⟩, 35), (⟨"ShipFromItselfModel", "goes", "(III)Z"⟩, 35), (⟨"ShipFromItselfModel", "leakOf", "(I)I"⟩, 35), (⟨"ShipFromItselfModel", "openSet", "(I)I"⟩, 35), (⟨"ShipFromItselfModel", "gnaw", "(I)V"⟩, 35), (⟨"ShipFromItselfModel", "comeDown", "(I)V"⟩, 35), (⟨"ShipFromItselfModel", "floatsOf", "(II)I"⟩, 35), (⟨"ShipFromItselfModel", "layBest", "(I)V"⟩, 35)]
theorem lw_r2 : ∀ q ∈ lw_privs_2, lw_okq q := List.forall_mem_cons.mpr ⟨lw_p16, List.forall_mem_cons.mpr ⟨lw_p17, List.forall_mem_cons.mpr ⟨lw_p18, List.forall_mem_cons.mpr ⟨lw_p19, List.forall_mem_cons.mpr ⟨lw_p20, List.forall_mem_cons.mpr ⟨lw_p21, List.forall_mem_cons.mpr ⟨lw_p22, List.forall_mem_cons.mpr ⟨lw_p23, List.forall_mem_cons.mpr ⟨lw_p24, List.forall_mem_cons.mpr ⟨lw_p25, List.forall_mem_cons.mpr ⟨lw_p26, List.forall_mem_cons.mpr ⟨lw_p27, List.forall_mem_cons.mpr ⟨lw_p28, List.forall_mem_cons.mpr ⟨lw_p29, List.forall_mem_cons.mpr ⟨lw_p30, List.forall_mem_cons.mpr ⟨lw_p31, fun _ h => absurd h List.not_mem_nil⟩⟩⟩⟩⟩⟩⟩⟩⟩⟩⟩⟩⟩⟩⟩⟩
theorem lw_p32 : lw_okq (⟨"ShipFromItselfModel", "laySecond", "(I)V"⟩, 35) := ⟨⟨by decide +kernel, by decide +kernel⟩, List.mem_of_getElem? (i := 699) (by decide +kernel), List.mem_of_getElem? (i := 949) (by decide +kernel), List.mem_of_getElem? (i := 950) (by decide +kernel)⟩
theorem lw_p33 : lw_okq (⟨"ShipFromItselfModel", "layPort", "(I)I"⟩, 35) := ⟨⟨by decide +kernel, by decide +kernel⟩, List.mem_of_getElem? (i := 699) (by decide +kernel), List.mem_of_getElem? (i := 962) (by decide +kernel), List.mem_of_getElem? (i := 963) (by decide +kernel)⟩
theorem lw_p34 : lw_okq (⟨"ShipFromItselfModel", "isPort", "(I)Z"⟩, 35) := ⟨⟨by decide +kernel, by decide +kernel⟩, List.mem_of_getElem? (i := 699) (by decide +kernel), List.mem_of_getElem? (i := 966) (by decide +kernel), List.mem_of_getElem? (i := 967) (by decide +kernel)⟩
theorem lw_p35 : lw_okq (⟨"ShipFromItselfModel", "logFrom", "(III)I"⟩, 35) := ⟨⟨by decide +kernel, by decide +kernel⟩, List.mem_of_getElem? (i := 699) (by decide +kernel), List.mem_of_getElem? (i := 992) (by decide +kernel), List.mem_of_getElem? (i := 993) (by decide +kernel)⟩
theorem lw_p36 : lw_okq (⟨"ShipFromItselfModel", "logLast", "(I)I"⟩, 35) := ⟨⟨by decide +kernel, by decide +kernel⟩, List.mem_of_getElem? (i := 699) (by decide +kernel), List.mem_of_getElem? (i := 996) (by decide +kernel), List.mem_of_getElem? (i := 997) (by decide +kernel)⟩
def lw_privs_3 : List (MethodName × Nat) := [(⟨"ShipFromItselfModel", "laySecond", "(I)V"⟩, 35), (⟨"ShipFromItselfModel", "layPort", "(I)I"⟩, 35), (⟨"ShipFromItselfModel", "isPort", "(I)Z"⟩, 35), (⟨"ShipFromItselfModel", "logFrom", "(III)I"⟩, 35), (⟨"ShipFromItselfModel", "logLast", "(I)I"⟩, 35)]
theorem lw_r3 : ∀ q ∈ lw_privs_3, lw_okq q := List.forall_mem_cons.mpr ⟨lw_p32, List.forall_mem_cons.mpr ⟨lw_p33, List.forall_mem_cons.mpr ⟨lw_p34, List.forall_mem_cons.mpr ⟨lw_p35, List.forall_mem_cons.mpr ⟨lw_p36, fun _ h => absurd h List.not_mem_nil⟩⟩⟩⟩⟩
def lw_privs : List (MethodName × Nat) := lw_privs_1 ++ (lw_privs_2 ++ (lw_privs_3))
def lw_tbl : List Cond := k2_sels lw_privs ++ tables_1
theorem lw_privs_ok : ∀ q ∈ lw_privs, lw_okq q := by
  show ∀ q ∈ lw_privs_1 ++ (lw_privs_2 ++ (lw_privs_3)), lw_okq q
  exact List.forall_mem_append.mpr ⟨lw_r1, List.forall_mem_append.mpr ⟨lw_r2, lw_r3⟩⟩
end
section
/-! ===== BEGIN words of one list among another's, by their places ===== -/
theorem goodIn_r {big : List Cond} (ws : List Cond) (ps : List Nat) (hp : ws = ps.filterMap (fun i => big[i]?)) (h : ws.all goodWord = true) : GoodIn big ws := by
  intro w hw
  have h1 := List.all_eq_true.mp h w hw
  rw [hp] at hw
  obtain ⟨i, -, hi⟩ := List.mem_filterMap.mp hw
  have hm : w ∈ big := by first | exact List.mem_of_getElem? hi | exact List.getElem?_mem hi
  exact ⟨hm, good_of_word h1⟩
theorem goodIn_app {big a b : List Cond} (ha : GoodIn big a) (hb : GoodIn big b) : GoodIn big (a ++ b) := fun w h => (List.mem_append.mp h).elim (ha w) (hb w)
theorem goodIn_ca {big a b : List Cond} {c : Cond} (ha : GoodIn big (c :: a)) (hb : GoodIn big b) : GoodIn big (c :: (a ++ b)) := fun w h => (List.mem_cons.mp h).elim (fun e => ha w (List.mem_cons.mpr (Or.inl e))) (fun h => (List.mem_append.mp h).elim (fun h => ha w (List.mem_cons.mpr (Or.inr h))) (hb w))
theorem goodIn_sub {big ws : List Cond} (hm : ∀ w ∈ ws, w ∈ big) (h : ws.all goodWord = true) : GoodIn big ws := fun w hw => ⟨hm w hw, good_of_word (List.all_eq_true.mp h w hw)⟩
/-! ===== END ===== -/

/-! ===== BEGIN printed: names, fields, word lists, decode rows ===== -/
def RX0 : String := "ShipFromItself$ActRow"
def TX0 : u_T := fun k => match k with
  | 0 => ("ShipFromItself$ActRow", "before", "[LShipFromItself$Load;", true)
  | 1 => ("ShipFromItself$ActRow", "first", "I", false)
  | _ => ("ShipFromItself$ActRow", "size", "I", false)
def tyX0 : Nat → FieldType := fun k => match k with
  | 0 => .array (.object "ShipFromItself$Load")
  | 1 => .int
  | _ => .int
abbrev wsX00 : List Cond := u_ws RX0 TX0 3
theorem nmX0 : ∀ a, a < 3 → ∀ b, b < 3 → a ≠ b → (TX0 a).2.1 ≠ (TX0 b).2.1 := by decide +kernel
theorem tyX0_ok : ∀ k, k < 3 → parseFieldDescriptor (TX0 k).2.2.1 = some (tyX0 k) := by decide +kernel
abbrev cX0_init : ByteArray := prog_2_method_1_code
def yX0_init : MethodName := ⟨RX0, "<init>", "()V"⟩
abbrev cX0_size : ByteArray := prog_2_method_2_code
def yX0_size : MethodName := ⟨RX0, "size", "()I"⟩
abbrev cX0_forgetAll : ByteArray := prog_2_method_3_code
def yX0_forgetAll : MethodName := ⟨RX0, "forgetAll", "()V"⟩
abbrev cX0_remember : ByteArray := prog_2_method_4_code
def yX0_remember : MethodName := ⟨RX0, "remember", "(LShipFromItself$Load;)V"⟩
abbrev cX0_undoLast : ByteArray := prog_2_method_5_code
def yX0_undoLast : MethodName := ⟨RX0, "undoLast", "(LShipFromItself$Load;)V"⟩
abbrev cX0_behindLast : ByteArray := prog_2_method_6_code
def yX0_behindLast : MethodName := ⟨RX0, "behindLast", "()I"⟩
def RX1 : String := "ShipFromItself$Chances"
def TX1 : u_T := fun k => match k with
  | 0 => ("ShipFromItself$Chances", "ways", "[J", true)
  | _ => ("ShipFromItself$Chances", "all", "J", false)
def tyX1 : Nat → FieldType := fun k => match k with
  | 0 => .array .long
  | _ => .long
abbrev wsX10 : List Cond := u_ws RX1 TX1 2
theorem nmX1 : ∀ a, a < 2 → ∀ b, b < 2 → a ≠ b → (TX1 a).2.1 ≠ (TX1 b).2.1 := by decide +kernel
theorem tyX1_ok : ∀ k, k < 2 → parseFieldDescriptor (TX1 k).2.2.1 = some (tyX1 k) := by decide +kernel
abbrev cX1_init : ByteArray := prog_3_method_1_code
def yX1_init : MethodName := ⟨RX1, "<init>", "()V"⟩
abbrev cX1_begin : ByteArray := prog_3_method_2_code
def yX1_begin : MethodName := ⟨RX1, "begin", "(I)V"⟩
abbrev cX1_tearOut : ByteArray := prog_3_method_3_code
def yX1_tearOut : MethodName := ⟨RX1, "tearOut", "(II)V"⟩
abbrev cX1_upTo : ByteArray := prog_3_method_4_code
def yX1_upTo : MethodName := ⟨RX1, "upTo", "(I)J"⟩
abbrev cX1_all : ByteArray := prog_3_method_5_code
def yX1_all : MethodName := ⟨RX1, "all", "()J"⟩
def RX2 : String := "ShipFromItself$Hull"
def TX2 : u_T := fun k => match k with
  | 0 => ("ShipFromItself$Hull", "length", "[I", true)
  | 1 => ("ShipFromItself$Hull", "letsIn", "[I", true)
  | 2 => ("ShipFromItself$Hull", "restsOn", "[I", true)
  | 3 => ("ShipFromItself$Hull", "shipOf", "[I", true)
  | 4 => ("ShipFromItself$Hull", "places", "I", false)
  | 5 => ("ShipFromItself$Hull", "pumps", "I", false)
  | _ => ("ShipFromItself$Hull", "hold", "I", false)
def tyX2 : Nat → FieldType := fun k => match k with
  | 0 => .array .int
  | 1 => .array .int
  | 2 => .array .int
  | 3 => .array .int
  | 4 => .int
  | 5 => .int
  | _ => .int
abbrev wsX20 : List Cond := u_ws RX2 TX2 7
theorem nmX2 : ∀ a, a < 7 → ∀ b, b < 7 → a ≠ b → (TX2 a).2.1 ≠ (TX2 b).2.1 := by decide +kernel
theorem tyX2_ok : ∀ k, k < 7 → parseFieldDescriptor (TX2 k).2.2.1 = some (tyX2 k) := by decide +kernel
abbrev cX2_init : ByteArray := prog_4_method_1_code
def yX2_init : MethodName := ⟨RX2, "<init>", "()V"⟩
abbrev cX2_build : ByteArray := prog_4_method_2_code
def yX2_build : MethodName := ⟨RX2, "build", "(LShipFromItself$Text;)V"⟩
abbrev cX2_places : ByteArray := prog_4_method_3_code
def yX2_places : MethodName := ⟨RX2, "places", "()I"⟩
abbrev cX2_pumps : ByteArray := prog_4_method_4_code
def yX2_pumps : MethodName := ⟨RX2, "pumps", "()I"⟩
abbrev cX2_hold : ByteArray := prog_4_method_5_code
def yX2_hold : MethodName := ⟨RX2, "hold", "()I"⟩
abbrev cX2_isPlace : ByteArray := prog_4_method_6_code
def yX2_isPlace : MethodName := ⟨RX2, "isPlace", "(I)Z"⟩
abbrev cX2_lengthOf : ByteArray := prog_4_method_7_code
def yX2_lengthOf : MethodName := ⟨RX2, "lengthOf", "(I)I"⟩
abbrev cX2_letsIn : ByteArray := prog_4_method_8_code
def yX2_letsIn : MethodName := ⟨RX2, "letsIn", "(I)I"⟩
abbrev cX2_restsOn : ByteArray := prog_4_method_9_code
def yX2_restsOn : MethodName := ⟨RX2, "restsOn", "(I)I"⟩
abbrev cX2_shipOf : ByteArray := prog_4_method_10_code
def yX2_shipOf : MethodName := ⟨RX2, "shipOf", "(I)I"⟩
abbrev cX2_leakOf : ByteArray := prog_4_method_11_code
def yX2_leakOf : MethodName := ⟨RX2, "leakOf", "(LShipFromItself$Load;)I"⟩
abbrev cX2_openPlaces : ByteArray := prog_4_method_12_code
def yX2_openPlaces : MethodName := ⟨RX2, "openPlaces", "(LShipFromItself$Load;)I"⟩
abbrev cX2_mayBeTakenFrom : ByteArray := prog_4_method_13_code
def yX2_mayBeTakenFrom : MethodName := ⟨RX2, "mayBeTakenFrom", "(ILShipFromItself$Load;)Z"⟩
abbrev cX2_fits : ByteArray := prog_4_method_14_code
def yX2_fits : MethodName := ⟨RX2, "fits", "(IILShipFromItself$Load;)Z"⟩
abbrev cX2_mayBeMoved : ByteArray := prog_4_method_15_code
def yX2_mayBeMoved : MethodName := ⟨RX2, "mayBeMoved", "(IILShipFromItself$Load;)Z"⟩
abbrev cX2_bringInto : ByteArray := prog_4_method_16_code
def yX2_bringInto : MethodName := ⟨RX2, "bringInto", "(IILShipFromItself$Load;)V"⟩
abbrev cX2_passWatch : ByteArray := prog_4_method_17_code
def yX2_passWatch : MethodName := ⟨RX2, "passWatch", "(LShipFromItself$Load;)V"⟩
abbrev cX2_letWormsEat : ByteArray := prog_4_method_18_code
def yX2_letWormsEat : MethodName := ⟨RX2, "letWormsEat", "(LShipFromItself$Load;)V"⟩
abbrev cX2_letComeDown : ByteArray := prog_4_method_19_code
def yX2_letComeDown : MethodName := ⟨RX2, "letComeDown", "(LShipFromItself$Load;)V"⟩
abbrev cX2_hangsInAir : ByteArray := prog_4_method_20_code
def yX2_hangsInAir : MethodName := ⟨RX2, "hangsInAir", "(ILShipFromItself$Load;)Z"⟩
abbrev cX2_watchesAfloat : ByteArray := prog_4_method_21_code
def yX2_watchesAfloat : MethodName := ⟨RX2, "watchesAfloat", "(LShipFromItself$Load;)I"⟩
abbrev cX2_isAtRest : ByteArray := prog_4_method_22_code
def yX2_isAtRest : MethodName := ⟨RX2, "isAtRest", "(LShipFromItself$Load;)Z"⟩
abbrev cX2_watchesAtRest : ByteArray := prog_4_method_23_code
def yX2_watchesAtRest : MethodName := ⟨RX2, "watchesAtRest", "(LShipFromItself$Load;)I"⟩
def RX3 : String := "ShipFromItself$Load"
def TX3 : u_T := fun k => match k with
  | 0 => ("ShipFromItself$Load", "where", "[I", true)
  | 1 => ("ShipFromItself$Load", "length", "[I", true)
  | 2 => ("ShipFromItself$Load", "worms", "[I", true)
  | 3 => ("ShipFromItself$Load", "timberIn", "[I", true)
  | 4 => ("ShipFromItself$Load", "water", "I", false)
  | _ => ("ShipFromItself$Load", "sunk", "Z", false)
def tyX3 : Nat → FieldType := fun k => match k with
  | 0 => .array .int
  | 1 => .array .int
  | 2 => .array .int
  | 3 => .array .int
  | 4 => .int
  | _ => .boolean
abbrev wsX30 : List Cond := u_ws RX3 TX3 6
theorem nmX3 : ∀ a, a < 6 → ∀ b, b < 6 → a ≠ b → (TX3 a).2.1 ≠ (TX3 b).2.1 := by decide +kernel
theorem tyX3_ok : ∀ k, k < 6 → parseFieldDescriptor (TX3 k).2.2.1 = some (tyX3 k) := by decide +kernel
abbrev cX3_init : ByteArray := prog_5_method_1_code
def yX3_init : MethodName := ⟨RX3, "<init>", "()V"⟩
abbrev cX3_fill : ByteArray := prog_5_method_2_code
def yX3_fill : MethodName := ⟨RX3, "fill", "(LShipFromItself$Hull;LShipFromItself$Text;)V"⟩
abbrev cX3_copyFrom : ByteArray := prog_5_method_3_code
def yX3_copyFrom : MethodName := ⟨RX3, "copyFrom", "(LShipFromItself$Load;)V"⟩
abbrev cX3_whereIs : ByteArray := prog_5_method_4_code
def yX3_whereIs : MethodName := ⟨RX3, "whereIs", "(I)I"⟩
abbrev cX3_lengthOf : ByteArray := prog_5_method_5_code
def yX3_lengthOf : MethodName := ⟨RX3, "lengthOf", "(I)I"⟩
abbrev cX3_wormsIn : ByteArray := prog_5_method_6_code
def yX3_wormsIn : MethodName := ⟨RX3, "wormsIn", "(I)I"⟩
abbrev cX3_timberIn : ByteArray := prog_5_method_7_code
def yX3_timberIn : MethodName := ⟨RX3, "timberIn", "(I)I"⟩
abbrev cX3_isOpen : ByteArray := prog_5_method_8_code
def yX3_isOpen : MethodName := ⟨RX3, "isOpen", "(I)Z"⟩
abbrev cX3_waterInside : ByteArray := prog_5_method_9_code
def yX3_waterInside : MethodName := ⟨RX3, "waterInside", "()I"⟩
abbrev cX3_isSunk : ByteArray := prog_5_method_10_code
def yX3_isSunk : MethodName := ⟨RX3, "isSunk", "()Z"⟩
abbrev cX3_bringTo : ByteArray := prog_5_method_11_code
def yX3_bringTo : MethodName := ⟨RX3, "bringTo", "(II)V"⟩
abbrev cX3_cutTo : ByteArray := prog_5_method_12_code
def yX3_cutTo : MethodName := ⟨RX3, "cutTo", "(II)V"⟩
abbrev cX3_addWorm : ByteArray := prog_5_method_13_code
def yX3_addWorm : MethodName := ⟨RX3, "addWorm", "(I)V"⟩
abbrev cX3_setWater : ByteArray := prog_5_method_14_code
def yX3_setWater : MethodName := ⟨RX3, "setWater", "(I)V"⟩
abbrev cX3_sink : ByteArray := prog_5_method_15_code
def yX3_sink : MethodName := ⟨RX3, "sink", "()V"⟩
def RX4 : String := "ShipFromItself$Rows"
def TX4 : u_T := fun k => match k with
  | 0 => ("ShipFromItself$Rows", "hull", "LShipFromItself$Hull;", true)
  | 1 => ("ShipFromItself$Rows", "steps", "[LShipFromItself$Load;", true)
  | 2 => ("ShipFromItself$Rows", "row", "[I", true)
  | 3 => ("ShipFromItself$Rows", "moves", "I", false)
  | _ => ("ShipFromItself$Rows", "begun", "Z", false)
def tyX4 : Nat → FieldType := fun k => match k with
  | 0 => .object "ShipFromItself$Hull"
  | 1 => .array (.object "ShipFromItself$Load")
  | 2 => .array .int
  | 3 => .int
  | _ => .boolean
abbrev wsX40 : List Cond := u_ws RX4 TX4 5
theorem nmX4 : ∀ a, a < 5 → ∀ b, b < 5 → a ≠ b → (TX4 a).2.1 ≠ (TX4 b).2.1 := by decide +kernel
theorem tyX4_ok : ∀ k, k < 5 → parseFieldDescriptor (TX4 k).2.2.1 = some (tyX4 k) := by decide +kernel
abbrev cX4_init : ByteArray := prog_6_method_1_code
def yX4_init : MethodName := ⟨RX4, "<init>", "(LShipFromItself$Hull;)V"⟩
abbrev cX4_begin : ByteArray := prog_6_method_2_code
def yX4_begin : MethodName := ⟨RX4, "begin", "(LShipFromItself$Load;I)V"⟩
abbrev cX4_end : ByteArray := prog_6_method_3_code
def yX4_end : MethodName := ⟨RX4, "end", "()LShipFromItself$Load;"⟩
abbrev cX4_copyTo : ByteArray := prog_6_method_4_code
def yX4_copyTo : MethodName := ⟨RX4, "copyTo", "([I)V"⟩
abbrev cX4_next : ByteArray := prog_6_method_5_code
def yX4_next : MethodName := ⟨RX4, "next", "()Z"⟩
abbrev cX4_makeNextMove : ByteArray := prog_6_method_6_code
def yX4_makeNextMove : MethodName := ⟨RX4, "makeNextMove", "(I)Z"⟩
def RX5 : String := "ShipFromItself$Search"
def TX5 : u_T := fun k => match k with
  | 0 => ("ShipFromItself$Search", "hull", "LShipFromItself$Hull;", true)
  | 1 => ("ShipFromItself$Search", "trial", "LShipFromItself$Load;", true)
  | 2 => ("ShipFromItself$Search", "rows", "LShipFromItself$Rows;", true)
  | 3 => ("ShipFromItself$Search", "found", "[I", true)
  | _ => ("ShipFromItself$Search", "foundMoves", "I", false)
def tyX5 : Nat → FieldType := fun k => match k with
  | 0 => .object "ShipFromItself$Hull"
  | 1 => .object "ShipFromItself$Load"
  | 2 => .object "ShipFromItself$Rows"
  | 3 => .array .int
  | _ => .int
abbrev wsX50 : List Cond := u_ws RX5 TX5 5
theorem nmX5 : ∀ a, a < 5 → ∀ b, b < 5 → a ≠ b → (TX5 a).2.1 ≠ (TX5 b).2.1 := by decide +kernel
theorem tyX5_ok : ∀ k, k < 5 → parseFieldDescriptor (TX5 k).2.2.1 = some (tyX5 k) := by decide +kernel
abbrev cX5_init : ByteArray := prog_7_method_1_code
def yX5_init : MethodName := ⟨RX5, "<init>", "(LShipFromItself$Hull;LShipFromItself$Load;)V"⟩
abbrev cX5_foundMove : ByteArray := prog_7_method_2_code
def yX5_foundMove : MethodName := ⟨RX5, "foundMove", "(I)I"⟩
abbrev cX5_leastLeak : ByteArray := prog_7_method_3_code
def yX5_leastLeak : MethodName := ⟨RX5, "leastLeak", "(LShipFromItself$Load;I)I"⟩
abbrev cX5_fewestMoves : ByteArray := prog_7_method_4_code
def yX5_fewestMoves : MethodName := ⟨RX5, "fewestMoves", "(LShipFromItself$Load;I)I"⟩
abbrev cX5_rowsTo : ByteArray := prog_7_method_5_code
def yX5_rowsTo : MethodName := ⟨RX5, "rowsTo", "(ILShipFromItself$Load;I)I"⟩
abbrev cX5_lastMovesTo : ByteArray := prog_7_method_6_code
def yX5_lastMovesTo : MethodName := ⟨RX5, "lastMovesTo", "(ILShipFromItself$Load;)I"⟩
abbrev cX5_bitOf : ByteArray := prog_7_method_7_code
def yX5_bitOf : MethodName := ⟨RX5, "bitOf", "(I)I"⟩
def RX6 : String := "ShipFromItself$Slots"
def TX6 : u_T := fun k => match k with
  | 0 => ("ShipFromItself$Slots", "stored", "[LShipFromItself$Load;", true)
  | _ => ("ShipFromItself$Slots", "filled", "[Z", true)
def tyX6 : Nat → FieldType := fun k => match k with
  | 0 => .array (.object "ShipFromItself$Load")
  | _ => .array .boolean
abbrev wsX60 : List Cond := u_ws RX6 TX6 2
theorem nmX6 : ∀ a, a < 2 → ∀ b, b < 2 → a ≠ b → (TX6 a).2.1 ≠ (TX6 b).2.1 := by decide +kernel
theorem tyX6_ok : ∀ k, k < 2 → parseFieldDescriptor (TX6 k).2.2.1 = some (tyX6 k) := by decide +kernel
abbrev cX6_init : ByteArray := prog_8_method_1_code
def yX6_init : MethodName := ⟨RX6, "<init>", "()V"⟩
abbrev cX6_isSlot : ByteArray := prog_8_method_2_code
def yX6_isSlot : MethodName := ⟨RX6, "isSlot", "(I)Z"⟩
abbrev cX6_isFilled : ByteArray := prog_8_method_3_code
def yX6_isFilled : MethodName := ⟨RX6, "isFilled", "(I)Z"⟩
abbrev cX6_store : ByteArray := prog_8_method_4_code
def yX6_store : MethodName := ⟨RX6, "store", "(ILShipFromItself$Load;)V"⟩
abbrev cX6_bringBack : ByteArray := prog_8_method_5_code
def yX6_bringBack : MethodName := ⟨RX6, "bringBack", "(ILShipFromItself$Load;)V"⟩
abbrev cX6_forgetAll : ByteArray := prog_8_method_6_code
def yX6_forgetAll : MethodName := ⟨RX6, "forgetAll", "()V"⟩
def RX7 : String := "ShipFromItself$Text"
def TX7 : u_T := fun k => match k with
  | 0 => ("ShipFromItself$Text", "bytes", "[B", true)
  | _ => ("ShipFromItself$Text", "size", "I", false)
def tyX7 : Nat → FieldType := fun k => match k with
  | 0 => .array .byte
  | _ => .int
abbrev wsX70 : List Cond := u_ws RX7 TX7 2
theorem nmX7 : ∀ a, a < 2 → ∀ b, b < 2 → a ≠ b → (TX7 a).2.1 ≠ (TX7 b).2.1 := by decide +kernel
theorem tyX7_ok : ∀ k, k < 2 → parseFieldDescriptor (TX7 k).2.2.1 = some (tyX7 k) := by decide +kernel
abbrev cX7_init : ByteArray := prog_9_method_1_code
def yX7_init : MethodName := ⟨RX7, "<init>", "()V"⟩
abbrev cX7_size : ByteArray := prog_9_method_2_code
def yX7_size : MethodName := ⟨RX7, "size", "()I"⟩
abbrev cX7_hasRoomFor : ByteArray := prog_9_method_3_code
def yX7_hasRoomFor : MethodName := ⟨RX7, "hasRoomFor", "(I)Z"⟩
abbrev cX7_append : ByteArray := prog_9_method_4_code
def yX7_append : MethodName := ⟨RX7, "append", "(IJ)V"⟩
abbrev cX7_clear : ByteArray := prog_9_method_5_code
def yX7_clear : MethodName := ⟨RX7, "clear", "()V"⟩
abbrev cX7_byteAt : ByteArray := prog_9_method_6_code
def yX7_byteAt : MethodName := ⟨RX7, "byteAt", "(I)I"⟩
abbrev cX7_figureAt : ByteArray := prog_9_method_7_code
def yX7_figureAt : MethodName := ⟨RX7, "figureAt", "(I)I"⟩
abbrev cX7_isFilledPlace : ByteArray := prog_9_method_8_code
def yX7_isFilledPlace : MethodName := ⟨RX7, "isFilledPlace", "(I)Z"⟩
abbrev cX7_bytesOfPlace : ByteArray := prog_9_method_9_code
def yX7_bytesOfPlace : MethodName := ⟨RX7, "bytesOfPlace", "(I)I"⟩
abbrev cX7_firstFault : ByteArray := prog_9_method_10_code
def yX7_firstFault : MethodName := ⟨RX7, "firstFault", "()I"⟩
abbrev cX7_faultInHead : ByteArray := prog_9_method_11_code
def yX7_faultInHead : MethodName := ⟨RX7, "faultInHead", "()I"⟩
abbrev cX7_faultInPlace : ByteArray := prog_9_method_12_code
def yX7_faultInPlace : MethodName := ⟨RX7, "faultInPlace", "(II)I"⟩
abbrev cX7_faultInTimber : ByteArray := prog_9_method_13_code
def yX7_faultInTimber : MethodName := ⟨RX7, "faultInTimber", "(I)I"⟩
abbrev cX7_isFigure : ByteArray := prog_9_method_14_code
def yX7_isFigure : MethodName := ⟨RX7, "isFigure", "(III)Z"⟩
def RX8 : String := "ShipFromItself"
def TX8 : u_T := fun k => match k with
  | 0 => ("ShipFromItself", "text", "LShipFromItself$Text;", true)
  | 1 => ("ShipFromItself", "hull", "LShipFromItself$Hull;", true)
  | 2 => ("ShipFromItself", "now", "LShipFromItself$Load;", true)
  | 3 => ("ShipFromItself", "trial", "LShipFromItself$Load;", true)
  | 4 => ("ShipFromItself", "acts", "LShipFromItself$ActRow;", true)
  | 5 => ("ShipFromItself", "slots", "LShipFromItself$Slots;", true)
  | 6 => ("ShipFromItself", "chances", "LShipFromItself$Chances;", true)
  | _ => ("ShipFromItself", "search", "LShipFromItself$Search;", true)
def tyX8 : Nat → FieldType := fun k => match k with
  | 0 => .object "ShipFromItself$Text"
  | 1 => .object "ShipFromItself$Hull"
  | 2 => .object "ShipFromItself$Load"
  | 3 => .object "ShipFromItself$Load"
  | 4 => .object "ShipFromItself$ActRow"
  | 5 => .object "ShipFromItself$Slots"
  | 6 => .object "ShipFromItself$Chances"
  | _ => .object "ShipFromItself$Search"
abbrev wsX80 : List Cond := u_ws RX8 TX8 8
theorem nmX8 : ∀ a, a < 8 → ∀ b, b < 8 → a ≠ b → (TX8 a).2.1 ≠ (TX8 b).2.1 := by decide +kernel
theorem tyX8_ok : ∀ k, k < 8 → parseFieldDescriptor (TX8 k).2.2.1 = some (tyX8 k) := by decide +kernel
abbrev cX8_init : ByteArray := prog_1_method_1_code
def yX8_init : MethodName := ⟨RX8, "<init>", "()V"⟩
abbrev cX8_write : ByteArray := prog_1_method_2_code
def yX8_write : MethodName := ⟨RX8, "write", "(IJ)I"⟩
abbrev cX8_wipe : ByteArray := prog_1_method_3_code
def yX8_wipe : MethodName := ⟨RX8, "wipe", "()I"⟩
abbrev cX8_fault : ByteArray := prog_1_method_4_code
def yX8_fault : MethodName := ⟨RX8, "fault", "()I"⟩
abbrev cX8_ship : ByteArray := prog_1_method_5_code
def yX8_ship : MethodName := ⟨RX8, "ship", "()I"⟩
abbrev cX8_place : ByteArray := prog_1_method_6_code
def yX8_place : MethodName := ⟨RX8, "place", "(II)I"⟩
abbrev cX8_timber : ByteArray := prog_1_method_7_code
def yX8_timber : MethodName := ⟨RX8, "timber", "(II)I"⟩
abbrev cX8_take : ByteArray := prog_1_method_8_code
def yX8_take : MethodName := ⟨RX8, "take", "(I)I"⟩
abbrev cX8_put : ByteArray := prog_1_method_9_code
def yX8_put : MethodName := ⟨RX8, "put", "(II)I"⟩
abbrev cX8_move : ByteArray := prog_1_method_10_code
def yX8_move : MethodName := ⟨RX8, "move", "(II)I"⟩
abbrev cX8_watch : ByteArray := prog_1_method_11_code
def yX8_watch : MethodName := ⟨RX8, "watch", "()I"⟩
abbrev cX8_back : ByteArray := prog_1_method_12_code
def yX8_back : MethodName := ⟨RX8, "back", "()I"⟩
abbrev cX8_leak : ByteArray := prog_1_method_13_code
def yX8_leak : MethodName := ⟨RX8, "leak", "()I"⟩
abbrev cX8_floats : ByteArray := prog_1_method_14_code
def yX8_floats : MethodName := ⟨RX8, "floats", "()I"⟩
abbrev cX8_harm : ByteArray := prog_1_method_15_code
def yX8_harm : MethodName := ⟨RX8, "harm", "(I)I"⟩
abbrev cX8_may : ByteArray := prog_1_method_16_code
def yX8_may : MethodName := ⟨RX8, "may", "(II)I"⟩
abbrev cX8_best : ByteArray := prog_1_method_17_code
def yX8_best : MethodName := ⟨RX8, "best", "(I)I"⟩
abbrev cX8_bestAt : ByteArray := prog_1_method_18_code
def yX8_bestAt : MethodName := ⟨RX8, "bestAt", "(II)I"⟩
abbrev cX8_port : ByteArray := prog_1_method_19_code
def yX8_port : MethodName := ⟨RX8, "port", "(I)I"⟩
abbrev cX8_portAt : ByteArray := prog_1_method_20_code
def yX8_portAt : MethodName := ⟨RX8, "portAt", "(II)I"⟩
abbrev cX8_storm : ByteArray := prog_1_method_21_code
def yX8_storm : MethodName := ⟨RX8, "storm", "(IIZ)J"⟩
abbrev cX8_share : ByteArray := prog_1_method_22_code
def yX8_share : MethodName := ⟨RX8, "share", "(IZ)I"⟩
abbrev cX8_log : ByteArray := prog_1_method_23_code
def yX8_log : MethodName := ⟨RX8, "log", "(II)I"⟩
abbrev cX8_keep : ByteArray := prog_1_method_24_code
def yX8_keep : MethodName := ⟨RX8, "keep", "(I)I"⟩
abbrev cX8_again : ByteArray := prog_1_method_25_code
def yX8_again : MethodName := ⟨RX8, "again", "(I)I"⟩
abbrev cX8_count : ByteArray := prog_1_method_26_code
def yX8_count : MethodName := ⟨RX8, "count", "(I)I"⟩
abbrev cX8_bringInto : ByteArray := prog_1_method_27_code
def yX8_bringInto : MethodName := ⟨RX8, "bringInto", "(II)I"⟩
abbrev cX8_refusalOfBest : ByteArray := prog_1_method_28_code
def yX8_refusalOfBest : MethodName := ⟨RX8, "refusalOfBest", "(I)I"⟩
abbrev cX8_refusalOfPort : ByteArray := prog_1_method_29_code
def yX8_refusalOfPort : MethodName := ⟨RX8, "refusalOfPort", "(I)I"⟩
abbrev cX8_timbersThatAre : ByteArray := prog_1_method_30_code
def yX8_timbersThatAre : MethodName := ⟨RX8, "timbersThatAre", "(I)I"⟩
abbrev cX8_leastTerms : ByteArray := prog_1_method_31_code
def yX8_leastTerms : MethodName := ⟨RX8, "leastTerms", "(JJZ)J"⟩
abbrev cX8_commonDivisor : ByteArray := prog_1_method_32_code
def yX8_commonDivisor : MethodName := ⟨RX8, "commonDivisor", "(JJ)J"⟩
def RX9 : String := "ShipFromItselfModel"
def TX9 : u_T := fun k => match k with
  | 0 => ("ShipFromItselfModel", "readLong", "[I", true)
  | 1 => ("ShipFromItselfModel", "readIn", "[I", true)
  | 2 => ("ShipFromItselfModel", "readRest", "[I", true)
  | 3 => ("ShipFromItselfModel", "readShip", "[I", true)
  | 4 => ("ShipFromItselfModel", "readWorms", "[I", true)
  | 5 => ("ShipFromItselfModel", "readMany", "I", false)
  | 6 => ("ShipFromItselfModel", "readPumps", "I", false)
  | 7 => ("ShipFromItselfModel", "readBears", "I", false)
  | 8 => ("ShipFromItselfModel", "wide", "[I", true)
  | 9 => ("ShipFromItselfModel", "lets", "[I", true)
  | 10 => ("ShipFromItselfModel", "rest", "[I", true)
  | 11 => ("ShipFromItselfModel", "ships", "[I", true)
  | 12 => ("ShipFromItselfModel", "many", "I", false)
  | 13 => ("ShipFromItselfModel", "pumps", "I", false)
  | 14 => ("ShipFromItselfModel", "bears", "I", false)
  | 15 => ("ShipFromItselfModel", "text", "[I", true)
  | 16 => ("ShipFromItselfModel", "length", "I", false)
  | 17 => ("ShipFromItselfModel", "pos", "I", false)
  | 18 => ("ShipFromItselfModel", "faultAt", "I", false)
  | 19 => ("ShipFromItselfModel", "at", "[I", true)
  | 20 => ("ShipFromItselfModel", "size", "[I", true)
  | 21 => ("ShipFromItselfModel", "worms", "[I", true)
  | 22 => ("ShipFromItselfModel", "water", "I", false)
  | 23 => ("ShipFromItselfModel", "isSunk", "Z", false)
  | 24 => ("ShipFromItselfModel", "acts", "I", false)
  | 25 => ("ShipFromItselfModel", "next", "I", false)
  | 26 => ("ShipFromItselfModel", "row", "[I", true)
  | 27 => ("ShipFromItselfModel", "found", "[I", true)
  | 28 => ("ShipFromItselfModel", "foundMany", "I", false)
  | 29 => ("ShipFromItselfModel", "foundLeak", "I", false)
  | 30 => ("ShipFromItselfModel", "sums", "[J", true)
  | 31 => ("ShipFromItselfModel", "isKept", "[Z", true)
  | 32 => ("ShipFromItselfModel", "kept", "[I", true)
  | 33 => ("ShipFromItselfModel", "keptWater", "[I", true)
  | _ => ("ShipFromItselfModel", "keptSunk", "[Z", true)
def tyX9 : Nat → FieldType := fun k => match k with
  | 0 => .array .int
  | 1 => .array .int
  | 2 => .array .int
  | 3 => .array .int
  | 4 => .array .int
  | 5 => .int
  | 6 => .int
  | 7 => .int
  | 8 => .array .int
  | 9 => .array .int
  | 10 => .array .int
  | 11 => .array .int
  | 12 => .int
  | 13 => .int
  | 14 => .int
  | 15 => .array .int
  | 16 => .int
  | 17 => .int
  | 18 => .int
  | 19 => .array .int
  | 20 => .array .int
  | 21 => .array .int
  | 22 => .int
  | 23 => .boolean
  | 24 => .int
  | 25 => .int
  | 26 => .array .int
  | 27 => .array .int
  | 28 => .int
  | 29 => .int
  | 30 => .array .long
  | 31 => .array .boolean
  | 32 => .array .int
  | 33 => .array .int
  | _ => .array .boolean
abbrev wsX90 : List Cond := u_ws RX9 TX9 35
theorem nmX9 : ∀ a, a < 35 → ∀ b, b < 35 → a ≠ b → (TX9 a).2.1 ≠ (TX9 b).2.1 := by decide +kernel
theorem tyX9_ok : ∀ k, k < 35 → parseFieldDescriptor (TX9 k).2.2.1 = some (tyX9 k) := by decide +kernel
abbrev cX9_init : ByteArray := prog_11_method_1_code
def yX9_init : MethodName := ⟨RX9, "<init>", "()V"⟩
abbrev cX9_in : ByteArray := prog_11_method_3_code
def yX9_in : MethodName := ⟨RX9, "in", "(JJJ)Z"⟩
abbrev cX9_write : ByteArray := prog_11_method_4_code
def yX9_write : MethodName := ⟨RX9, "write", "(IJ)I"⟩
abbrev cX9_wipe : ByteArray := prog_11_method_5_code
def yX9_wipe : MethodName := ⟨RX9, "wipe", "()I"⟩
abbrev cX9_figure : ByteArray := prog_11_method_6_code
def yX9_figure : MethodName := ⟨RX9, "figure", "(II)I"⟩
abbrev cX9_readText : ByteArray := prog_11_method_7_code
def yX9_readText : MethodName := ⟨RX9, "readText", "()I"⟩
abbrev cX9_readPlace : ByteArray := prog_11_method_8_code
def yX9_readPlace : MethodName := ⟨RX9, "readPlace", "(Z)V"⟩
abbrev cX9_fault : ByteArray := prog_11_method_9_code
def yX9_fault : MethodName := ⟨RX9, "fault", "()I"⟩
abbrev cX9_ship : ByteArray := prog_11_method_10_code
def yX9_ship : MethodName := ⟨RX9, "ship", "()I"⟩
abbrev cX9_isPlace : ByteArray := prog_11_method_11_code
def yX9_isPlace : MethodName := ⟨RX9, "isPlace", "(I)Z"⟩
abbrev cX9_inside : ByteArray := prog_11_method_12_code
def yX9_inside : MethodName := ⟨RX9, "inside", "(II)I"⟩
abbrev cX9_place : ByteArray := prog_11_method_13_code
def yX9_place : MethodName := ⟨RX9, "place", "(II)I"⟩
abbrev cX9_timber : ByteArray := prog_11_method_14_code
def yX9_timber : MethodName := ⟨RX9, "timber", "(II)I"⟩
abbrev cX9_isBorne : ByteArray := prog_11_method_15_code
def yX9_isBorne : MethodName := ⟨RX9, "isBorne", "(II)Z"⟩
abbrev cX9_canTake : ByteArray := prog_11_method_16_code
def yX9_canTake : MethodName := ⟨RX9, "canTake", "(II)Z"⟩
abbrev cX9_canPut : ByteArray := prog_11_method_17_code
def yX9_canPut : MethodName := ⟨RX9, "canPut", "(III)Z"⟩
abbrev cX9_goes : ByteArray := prog_11_method_18_code
def yX9_goes : MethodName := ⟨RX9, "goes", "(III)Z"⟩
abbrev cX9_copy : ByteArray := prog_11_method_19_code
def yX9_copy : MethodName := ⟨RX9, "copy", "(II)V"⟩
abbrev cX9_openSet : ByteArray := prog_11_method_20_code
def yX9_openSet : MethodName := ⟨RX9, "openSet", "(I)I"⟩
abbrev cX9_leakOf : ByteArray := prog_11_method_21_code
def yX9_leakOf : MethodName := ⟨RX9, "leakOf", "(I)I"⟩
abbrev cX9_comeDown : ByteArray := prog_11_method_22_code
def yX9_comeDown : MethodName := ⟨RX9, "comeDown", "(I)V"⟩
abbrev cX9_gnaw : ByteArray := prog_11_method_23_code
def yX9_gnaw : MethodName := ⟨RX9, "gnaw", "(I)V"⟩
abbrev cX9_keepAct : ByteArray := prog_11_method_24_code
def yX9_keepAct : MethodName := ⟨RX9, "keepAct", "()V"⟩
abbrev cX9_take : ByteArray := prog_11_method_25_code
def yX9_take : MethodName := ⟨RX9, "take", "(I)I"⟩
abbrev cX9_put : ByteArray := prog_11_method_26_code
def yX9_put : MethodName := ⟨RX9, "put", "(II)I"⟩
abbrev cX9_move : ByteArray := prog_11_method_27_code
def yX9_move : MethodName := ⟨RX9, "move", "(II)I"⟩
abbrev cX9_watch : ByteArray := prog_11_method_28_code
def yX9_watch : MethodName := ⟨RX9, "watch", "()I"⟩
abbrev cX9_back : ByteArray := prog_11_method_29_code
def yX9_back : MethodName := ⟨RX9, "back", "()I"⟩
abbrev cX9_leak : ByteArray := prog_11_method_30_code
def yX9_leak : MethodName := ⟨RX9, "leak", "()I"⟩
abbrev cX9_floatsOf : ByteArray := prog_11_method_31_code
def yX9_floatsOf : MethodName := ⟨RX9, "floatsOf", "(II)I"⟩
abbrev cX9_floats : ByteArray := prog_11_method_32_code
def yX9_floats : MethodName := ⟨RX9, "floats", "()I"⟩
abbrev cX9_harm : ByteArray := prog_11_method_33_code
def yX9_harm : MethodName := ⟨RX9, "harm", "(I)I"⟩
abbrev cX9_may : ByteArray := prog_11_method_34_code
def yX9_may : MethodName := ⟨RX9, "may", "(II)I"⟩
abbrev cX9_layBest : ByteArray := prog_11_method_35_code
def yX9_layBest : MethodName := ⟨RX9, "layBest", "(I)V"⟩
abbrev cX9_laySecond : ByteArray := prog_11_method_36_code
def yX9_laySecond : MethodName := ⟨RX9, "laySecond", "(I)V"⟩
abbrev cX9_best : ByteArray := prog_11_method_37_code
def yX9_best : MethodName := ⟨RX9, "best", "(I)I"⟩
abbrev cX9_bestAt : ByteArray := prog_11_method_38_code
def yX9_bestAt : MethodName := ⟨RX9, "bestAt", "(II)I"⟩
abbrev cX9_layPort : ByteArray := prog_11_method_39_code
def yX9_layPort : MethodName := ⟨RX9, "layPort", "(I)I"⟩
abbrev cX9_isPort : ByteArray := prog_11_method_40_code
def yX9_isPort : MethodName := ⟨RX9, "isPort", "(I)Z"⟩
abbrev cX9_port : ByteArray := prog_11_method_41_code
def yX9_port : MethodName := ⟨RX9, "port", "(I)I"⟩
abbrev cX9_portAt : ByteArray := prog_11_method_42_code
def yX9_portAt : MethodName := ⟨RX9, "portAt", "(II)I"⟩
abbrev cX9_part : ByteArray := prog_11_method_43_code
def yX9_part : MethodName := ⟨RX9, "part", "(JJZ)J"⟩
abbrev cX9_storm : ByteArray := prog_11_method_44_code
def yX9_storm : MethodName := ⟨RX9, "storm", "(IIZ)J"⟩
abbrev cX9_share : ByteArray := prog_11_method_45_code
def yX9_share : MethodName := ⟨RX9, "share", "(IZ)I"⟩
abbrev cX9_log : ByteArray := prog_11_method_46_code
def yX9_log : MethodName := ⟨RX9, "log", "(II)I"⟩
abbrev cX9_logFrom : ByteArray := prog_11_method_47_code
def yX9_logFrom : MethodName := ⟨RX9, "logFrom", "(III)I"⟩
abbrev cX9_logLast : ByteArray := prog_11_method_48_code
def yX9_logLast : MethodName := ⟨RX9, "logLast", "(I)I"⟩
abbrev cX9_keep : ByteArray := prog_11_method_49_code
def yX9_keep : MethodName := ⟨RX9, "keep", "(I)I"⟩
abbrev cX9_again : ByteArray := prog_11_method_50_code
def yX9_again : MethodName := ⟨RX9, "again", "(I)I"⟩
abbrev cX9_count : ByteArray := prog_11_method_51_code
def yX9_count : MethodName := ⟨RX9, "count", "(I)I"⟩
def RJ6 : String := "java/lang/Integer"
def TJ6 : u_T := fun k => match k with
  | _ => ("", "", "", false)
def tyJ6 : Nat → FieldType := fun k => match k with
  | _ => .int
abbrev wsJ60 : List Cond := u_ws RJ6 TJ6 0
theorem nmJ6 : ∀ a, a < 0 → ∀ b, b < 0 → a ≠ b → (TJ6 a).2.1 ≠ (TJ6 b).2.1 := by decide +kernel
theorem tyJ6_ok : ∀ k, k < 0 → parseFieldDescriptor (TJ6 k).2.2.1 = some (tyJ6 k) := by decide +kernel
abbrev cJ6_numberOfTrailingZeros_0f7a4 : ByteArray := prog_12_method_48_code
def yJ6_numberOfTrailingZeros_0f7a4 : MethodName := ⟨RJ6, "numberOfTrailingZeros", "(I)I"⟩
abbrev cJ6_bitCount_0f7a4 : ByteArray := prog_12_method_49_code
def yJ6_bitCount_0f7a4 : MethodName := ⟨RJ6, "bitCount", "(I)I"⟩
def RJ9 : String := "java/lang/Math"
def TJ9 : u_T := fun k => match k with
  | _ => ("", "", "", false)
def tyJ9 : Nat → FieldType := fun k => match k with
  | _ => .int
abbrev wsJ90 : List Cond := u_ws RJ9 TJ9 0
theorem nmJ9 : ∀ a, a < 0 → ∀ b, b < 0 → a ≠ b → (TJ9 a).2.1 ≠ (TJ9 b).2.1 := by decide +kernel
theorem tyJ9_ok : ∀ k, k < 0 → parseFieldDescriptor (TJ9 k).2.2.1 = some (tyJ9 k) := by decide +kernel
abbrev cJ9_floorMod_7cf53 : ByteArray := prog_13_method_50_code
def yJ9_floorMod_7cf53 : MethodName := ⟨RJ9, "floorMod", "(II)I"⟩
abbrev cJ9_max_7cf53 : ByteArray := prog_13_method_65_code
def yJ9_max_7cf53 : MethodName := ⟨RJ9, "max", "(II)I"⟩
abbrev cJ9_min_7cf53 : ByteArray := prog_13_method_69_code
def yJ9_min_7cf53 : MethodName := ⟨RJ9, "min", "(II)I"⟩
def RJ10 : String := "java/lang/System"
def TJ10 : u_T := fun k => match k with
  | _ => ("", "", "", false)
def tyJ10 : Nat → FieldType := fun k => match k with
  | _ => .int
abbrev wsJ100 : List Cond := u_ws RJ10 TJ10 0
theorem nmJ10 : ∀ a, a < 0 → ∀ b, b < 0 → a ≠ b → (TJ10 a).2.1 ≠ (TJ10 b).2.1 := by decide +kernel
theorem tyJ10_ok : ∀ k, k < 0 → parseFieldDescriptor (TJ10 k).2.2.1 = some (tyJ10 k) := by decide +kernel
def RL : String := "ShipFromItselfLaw"
abbrev cL_law : ByteArray := code
def yL_law : MethodName := ⟨RL, "law", "([I)Z"⟩
def wsX3_init : List Cond := .code yX3_init cX3_init 2 none :: ([.methodLink RX3 3 objectInit, .instanceMethod objectInit, .code objectInit ⟨#[0xb1]⟩ 1 none, .arrayClass .int, .fieldLink RX3 9 "ShipFromItself$Load" "where" "[I", .fieldLink RX3 15 "ShipFromItself$Load" "length" "[I", .fieldLink RX3 18 "ShipFromItself$Load" "worms" "[I", .fieldLink RX3 21 "ShipFromItself$Load" "timberIn" "[I", .fieldLink RX3 24 "ShipFromItself$Load" "water" "I", .fieldLink RX3 28 "ShipFromItself$Load" "sunk" "Z"] ++ wsX30)
def wsX0_init : List Cond := .code yX0_init cX0_init 2 none :: ([.methodLink RX0 3 objectInit, .instanceMethod objectInit, .code objectInit ⟨#[0xb1]⟩ 1 none, .classLink RX0 9 RX3, .fieldLink RX0 11 "ShipFromItself$ActRow" "before" "[LShipFromItself$Load;", .fieldLink RX0 17 "ShipFromItself$ActRow" "first" "I", .fieldLink RX0 21 "ShipFromItself$ActRow" "size" "I", .instantiable RX3 6, .initialized RX3, .methodLink RX0 24 yX3_init, .instanceMethod yX3_init, .code yX3_init cX3_init 2 none, .methodLink RX3 3 objectInit, .arrayClass .int, .fieldLink RX3 9 "ShipFromItself$Load" "where" "[I", .fieldLink RX3 15 "ShipFromItself$Load" "length" "[I", .fieldLink RX3 18 "ShipFromItself$Load" "worms" "[I", .fieldLink RX3 21 "ShipFromItself$Load" "timberIn" "[I", .fieldLink RX3 24 "ShipFromItself$Load" "water" "I", .fieldLink RX3 28 "ShipFromItself$Load" "sunk" "Z"] ++ wsX00 ++ wsX30)
def wsX0_size : List Cond := .code yX0_size cX0_size 1 (some .int) :: ([.fieldLink RX0 21 "ShipFromItself$ActRow" "size" "I"] ++ wsX00)
def wsX0_forgetAll : List Cond := .code yX0_forgetAll cX0_forgetAll 1 none :: ([.fieldLink RX0 21 "ShipFromItself$ActRow" "size" "I"] ++ wsX00)
def wsJ9_floorMod_7cf53 : List Cond := .code yJ9_floorMod_7cf53 cJ9_floorMod_7cf53 3 (some .int) :: ([])
def wsX0_behindLast : List Cond := .code yX0_behindLast cX0_behindLast 1 (some .int) :: ([.fieldLink RX0 17 "ShipFromItself$ActRow" "first" "I", .fieldLink RX0 21 "ShipFromItself$ActRow" "size" "I", .methodLink RX0 25 yJ9_floorMod_7cf53, .static yJ9_floorMod_7cf53, .initialized RJ9, .code yJ9_floorMod_7cf53 cJ9_floorMod_7cf53 3 (some .int)] ++ wsX00)
def wsX3_copyFrom : List Cond := .code yX3_copyFrom cX3_copyFrom 2 none :: ([.fieldLink RX3 9 "ShipFromItself$Load" "where" "[I", .methodLink RX3 53 arraycopyName, .native arraycopyName, .static arraycopyName, .initialized "java/lang/System", .fieldLink RX3 15 "ShipFromItself$Load" "length" "[I", .fieldLink RX3 18 "ShipFromItself$Load" "worms" "[I", .fieldLink RX3 21 "ShipFromItself$Load" "timberIn" "[I", .fieldLink RX3 24 "ShipFromItself$Load" "water" "I", .fieldLink RX3 28 "ShipFromItself$Load" "sunk" "Z"] ++ wsX30)
def wsX0_remember_r1 : List Cond := [Cond.fieldLink RX0 21 "ShipFromItself$ActRow" "size" "I", Cond.fieldLink RX0 17 "ShipFromItself$ActRow" "first" "I", Cond.fieldLink RX0 11 "ShipFromItself$ActRow" "before" "[LShipFromItself$Load;", Cond.methodLink RX0 25 yJ9_floorMod_7cf53, Cond.static yJ9_floorMod_7cf53, Cond.initialized RJ9, Cond.code yJ9_floorMod_7cf53 cJ9_floorMod_7cf53 3 (some .int), Cond.methodLink RX0 31 yX0_behindLast, Cond.instanceMethod yX0_behindLast, Cond.selects RX0 yX0_behindLast yX0_behindLast, Cond.initialized RX0, Cond.code yX0_behindLast cX0_behindLast 1 (some .int), Cond.methodLink RX0 35 yX3_copyFrom, Cond.instanceMethod yX3_copyFrom, Cond.selects RX3 yX3_copyFrom yX3_copyFrom, Cond.initialized RX3, Cond.code yX3_copyFrom cX3_copyFrom 2 none, Cond.fieldLink RX3 9 "ShipFromItself$Load" "where" "[I", Cond.methodLink RX3 53 arraycopyName, Cond.native arraycopyName, Cond.static arraycopyName, Cond.initialized "java/lang/System", Cond.fieldLink RX3 15 "ShipFromItself$Load" "length" "[I", Cond.fieldLink RX3 18 "ShipFromItself$Load" "worms" "[I"]
def wsX0_remember_r2 : List Cond := [Cond.fieldLink RX3 21 "ShipFromItself$Load" "timberIn" "[I", Cond.fieldLink RX3 24 "ShipFromItself$Load" "water" "I", Cond.fieldLink RX3 28 "ShipFromItself$Load" "sunk" "Z"]
def wsX0_remember : List Cond := .code yX0_remember cX0_remember 2 none :: ((wsX0_remember_r1 ++ wsX0_remember_r2) ++ wsX00 ++ wsX30)
def wsX0_undoLast_r1 : List Cond := [Cond.fieldLink RX0 21 "ShipFromItself$ActRow" "size" "I", Cond.fieldLink RX0 11 "ShipFromItself$ActRow" "before" "[LShipFromItself$Load;", Cond.methodLink RX0 31 yX0_behindLast, Cond.instanceMethod yX0_behindLast, Cond.selects RX0 yX0_behindLast yX0_behindLast, Cond.initialized RX0, Cond.code yX0_behindLast cX0_behindLast 1 (some .int), Cond.fieldLink RX0 17 "ShipFromItself$ActRow" "first" "I", Cond.methodLink RX0 25 yJ9_floorMod_7cf53, Cond.static yJ9_floorMod_7cf53, Cond.initialized RJ9, Cond.code yJ9_floorMod_7cf53 cJ9_floorMod_7cf53 3 (some .int), Cond.methodLink RX0 35 yX3_copyFrom, Cond.instanceMethod yX3_copyFrom, Cond.selects RX3 yX3_copyFrom yX3_copyFrom, Cond.initialized RX3, Cond.code yX3_copyFrom cX3_copyFrom 2 none, Cond.fieldLink RX3 9 "ShipFromItself$Load" "where" "[I", Cond.methodLink RX3 53 arraycopyName, Cond.native arraycopyName, Cond.static arraycopyName, Cond.initialized "java/lang/System", Cond.fieldLink RX3 15 "ShipFromItself$Load" "length" "[I", Cond.fieldLink RX3 18 "ShipFromItself$Load" "worms" "[I"]
def wsX0_undoLast_r2 : List Cond := [Cond.fieldLink RX3 21 "ShipFromItself$Load" "timberIn" "[I", Cond.fieldLink RX3 24 "ShipFromItself$Load" "water" "I", Cond.fieldLink RX3 28 "ShipFromItself$Load" "sunk" "Z"]
def wsX0_undoLast : List Cond := .code yX0_undoLast cX0_undoLast 2 none :: ((wsX0_undoLast_r1 ++ wsX0_undoLast_r2) ++ wsX00 ++ wsX30)
def wsX1_init : List Cond := .code yX1_init cX1_init 1 none :: ([.methodLink RX1 3 objectInit, .instanceMethod objectInit, .code objectInit ⟨#[0xb1]⟩ 1 none, .arrayClass .long, .fieldLink RX1 9 "ShipFromItself$Chances" "ways" "[J", .fieldLink RX1 15 "ShipFromItself$Chances" "all" "J"] ++ wsX10)
def wsX1_begin : List Cond := .code yX1_begin cX1_begin 3 none :: ([.fieldLink RX1 9 "ShipFromItself$Chances" "ways" "[J", .fieldLink RX1 15 "ShipFromItself$Chances" "all" "J"] ++ wsX10)
def wsX1_tearOut : List Cond := .code yX1_tearOut cX1_tearOut 7 none :: ([.fieldLink RX1 9 "ShipFromItself$Chances" "ways" "[J", .fieldLink RX1 15 "ShipFromItself$Chances" "all" "J", .constantLong RX1 19 (10)] ++ wsX10)
def wsX1_upTo : List Cond := .code yX1_upTo cX1_upTo 5 (some .long) :: ([.fieldLink RX1 9 "ShipFromItself$Chances" "ways" "[J"] ++ wsX10)
def wsX1_all : List Cond := .code yX1_all cX1_all 1 (some .long) :: ([.fieldLink RX1 15 "ShipFromItself$Chances" "all" "J"] ++ wsX10)
def wsX2_init : List Cond := .code yX2_init cX2_init 1 none :: ([.methodLink RX2 3 objectInit, .instanceMethod objectInit, .code objectInit ⟨#[0xb1]⟩ 1 none, .arrayClass .int, .fieldLink RX2 9 "ShipFromItself$Hull" "length" "[I", .fieldLink RX2 15 "ShipFromItself$Hull" "letsIn" "[I", .fieldLink RX2 18 "ShipFromItself$Hull" "restsOn" "[I", .fieldLink RX2 21 "ShipFromItself$Hull" "shipOf" "[I", .fieldLink RX2 24 "ShipFromItself$Hull" "places" "I", .fieldLink RX2 28 "ShipFromItself$Hull" "pumps" "I", .fieldLink RX2 31 "ShipFromItself$Hull" "hold" "I"] ++ wsX20)
def wsX7_byteAt : List Cond := .code yX7_byteAt cX7_byteAt 2 (some .int) :: ([.fieldLink RX7 15 "ShipFromItself$Text" "size" "I", .fieldLink RX7 9 "ShipFromItself$Text" "bytes" "[B"] ++ wsX70)
def wsX7_figureAt : List Cond := .code yX7_figureAt cX7_figureAt 2 (some .int) :: ([.methodLink RX7 19 yX7_byteAt, .instanceMethod yX7_byteAt, .selects RX7 yX7_byteAt yX7_byteAt, .initialized RX7, .code yX7_byteAt cX7_byteAt 2 (some .int), .fieldLink RX7 15 "ShipFromItself$Text" "size" "I", .fieldLink RX7 9 "ShipFromItself$Text" "bytes" "[B"] ++ wsX70)
def wsX7_size : List Cond := .code yX7_size cX7_size 1 (some .int) :: ([.fieldLink RX7 15 "ShipFromItself$Text" "size" "I"] ++ wsX70)
def wsX7_isFilledPlace : List Cond := .code yX7_isFilledPlace cX7_isFilledPlace 2 (some .boolean) :: ([.methodLink RX7 19 yX7_byteAt, .instanceMethod yX7_byteAt, .selects RX7 yX7_byteAt yX7_byteAt, .initialized RX7, .code yX7_byteAt cX7_byteAt 2 (some .int), .fieldLink RX7 15 "ShipFromItself$Text" "size" "I", .fieldLink RX7 9 "ShipFromItself$Text" "bytes" "[B"] ++ wsX70)
def wsX7_bytesOfPlace : List Cond := .code yX7_bytesOfPlace cX7_bytesOfPlace 2 (some .int) :: ([.methodLink RX7 23 yX7_isFilledPlace, .instanceMethod yX7_isFilledPlace, .selects RX7 yX7_isFilledPlace yX7_isFilledPlace, .initialized RX7, .code yX7_isFilledPlace cX7_isFilledPlace 2 (some .boolean), .methodLink RX7 19 yX7_byteAt, .instanceMethod yX7_byteAt, .selects RX7 yX7_byteAt yX7_byteAt, .code yX7_byteAt cX7_byteAt 2 (some .int), .fieldLink RX7 15 "ShipFromItself$Text" "size" "I", .fieldLink RX7 9 "ShipFromItself$Text" "bytes" "[B"] ++ wsX70)
def wsX2_build_r1 : List Cond := [Cond.fieldLink RX2 28 "ShipFromItself$Hull" "pumps" "I", Cond.fieldLink RX2 31 "ShipFromItself$Hull" "hold" "I", Cond.fieldLink RX2 24 "ShipFromItself$Hull" "places" "I", Cond.fieldLink RX2 9 "ShipFromItself$Hull" "length" "[I", Cond.fieldLink RX2 15 "ShipFromItself$Hull" "letsIn" "[I", Cond.fieldLink RX2 18 "ShipFromItself$Hull" "restsOn" "[I", Cond.fieldLink RX2 21 "ShipFromItself$Hull" "shipOf" "[I", Cond.methodLink RX2 34 yX7_figureAt, Cond.instanceMethod yX7_figureAt, Cond.selects RX7 yX7_figureAt yX7_figureAt, Cond.initialized RX7, Cond.code yX7_figureAt cX7_figureAt 2 (some .int), Cond.methodLink RX7 19 yX7_byteAt, Cond.instanceMethod yX7_byteAt, Cond.selects RX7 yX7_byteAt yX7_byteAt, Cond.code yX7_byteAt cX7_byteAt 2 (some .int), Cond.fieldLink RX7 15 "ShipFromItself$Text" "size" "I", Cond.fieldLink RX7 9 "ShipFromItself$Text" "bytes" "[B", Cond.methodLink RX2 40 yX7_size, Cond.instanceMethod yX7_size, Cond.selects RX7 yX7_size yX7_size, Cond.code yX7_size cX7_size 1 (some .int), Cond.methodLink RX2 44 yX7_byteAt, Cond.methodLink RX2 47 yX7_isFilledPlace]
def wsX2_build_r2 : List Cond := [Cond.instanceMethod yX7_isFilledPlace, Cond.selects RX7 yX7_isFilledPlace yX7_isFilledPlace, Cond.code yX7_isFilledPlace cX7_isFilledPlace 2 (some .boolean), Cond.methodLink RX2 51 yX7_bytesOfPlace, Cond.instanceMethod yX7_bytesOfPlace, Cond.selects RX7 yX7_bytesOfPlace yX7_bytesOfPlace, Cond.code yX7_bytesOfPlace cX7_bytesOfPlace 2 (some .int), Cond.methodLink RX7 23 yX7_isFilledPlace]
def wsX2_build : List Cond := .code yX2_build cX2_build 4 none :: ((wsX2_build_r1 ++ wsX2_build_r2) ++ wsX20 ++ wsX70)
def wsX2_places : List Cond := .code yX2_places cX2_places 1 (some .int) :: ([.fieldLink RX2 24 "ShipFromItself$Hull" "places" "I"] ++ wsX20)
def wsX2_pumps : List Cond := .code yX2_pumps cX2_pumps 1 (some .int) :: ([.fieldLink RX2 28 "ShipFromItself$Hull" "pumps" "I"] ++ wsX20)
def wsX2_hold : List Cond := .code yX2_hold cX2_hold 1 (some .int) :: ([.fieldLink RX2 31 "ShipFromItself$Hull" "hold" "I"] ++ wsX20)
def wsX2_isPlace : List Cond := .code yX2_isPlace cX2_isPlace 2 (some .boolean) :: ([.fieldLink RX2 24 "ShipFromItself$Hull" "places" "I"] ++ wsX20)
def wsX2_lengthOf : List Cond := .code yX2_lengthOf cX2_lengthOf 2 (some .int) :: ([.fieldLink RX2 24 "ShipFromItself$Hull" "places" "I", .fieldLink RX2 9 "ShipFromItself$Hull" "length" "[I"] ++ wsX20)
def wsX2_letsIn : List Cond := .code yX2_letsIn cX2_letsIn 2 (some .int) :: ([.fieldLink RX2 24 "ShipFromItself$Hull" "places" "I", .fieldLink RX2 15 "ShipFromItself$Hull" "letsIn" "[I"] ++ wsX20)
def wsX2_restsOn : List Cond := .code yX2_restsOn cX2_restsOn 2 (some .int) :: ([.fieldLink RX2 24 "ShipFromItself$Hull" "places" "I", .fieldLink RX2 18 "ShipFromItself$Hull" "restsOn" "[I"] ++ wsX20)
def wsX2_shipOf : List Cond := .code yX2_shipOf cX2_shipOf 2 (some .int) :: ([.fieldLink RX2 24 "ShipFromItself$Hull" "places" "I", .fieldLink RX2 21 "ShipFromItself$Hull" "shipOf" "[I"] ++ wsX20)
def wsX3_isOpen : List Cond := .code yX3_isOpen cX3_isOpen 2 (some .boolean) :: ([.fieldLink RX3 21 "ShipFromItself$Load" "timberIn" "[I"] ++ wsX30)
def wsX2_leakOf : List Cond := .code yX2_leakOf cX2_leakOf 4 (some .int) :: ([.fieldLink RX2 24 "ShipFromItself$Hull" "places" "I", .methodLink RX2 54 yX3_isOpen, .instanceMethod yX3_isOpen, .selects RX3 yX3_isOpen yX3_isOpen, .initialized RX3, .code yX3_isOpen cX3_isOpen 2 (some .boolean), .fieldLink RX3 21 "ShipFromItself$Load" "timberIn" "[I", .methodLink RX2 59 yX2_letsIn, .instanceMethod yX2_letsIn, .selects RX2 yX2_letsIn yX2_letsIn, .initialized RX2, .code yX2_letsIn cX2_letsIn 2 (some .int), .fieldLink RX2 15 "ShipFromItself$Hull" "letsIn" "[I"] ++ wsX20 ++ wsX30)
def wsX2_openPlaces : List Cond := .code yX2_openPlaces cX2_openPlaces 4 (some .int) :: ([.fieldLink RX2 24 "ShipFromItself$Hull" "places" "I", .methodLink RX2 54 yX3_isOpen, .instanceMethod yX3_isOpen, .selects RX3 yX3_isOpen yX3_isOpen, .initialized RX3, .code yX3_isOpen cX3_isOpen 2 (some .boolean), .fieldLink RX3 21 "ShipFromItself$Load" "timberIn" "[I"] ++ wsX20 ++ wsX30)
def wsX2_mayBeTakenFrom : List Cond := .code yX2_mayBeTakenFrom cX2_mayBeTakenFrom 4 (some .boolean) :: ([.fieldLink RX2 24 "ShipFromItself$Hull" "places" "I", .methodLink RX2 54 yX3_isOpen, .instanceMethod yX3_isOpen, .selects RX3 yX3_isOpen yX3_isOpen, .initialized RX3, .code yX3_isOpen cX3_isOpen 2 (some .boolean), .fieldLink RX3 21 "ShipFromItself$Load" "timberIn" "[I", .methodLink RX2 61 yX2_restsOn, .instanceMethod yX2_restsOn, .selects RX2 yX2_restsOn yX2_restsOn, .initialized RX2, .code yX2_restsOn cX2_restsOn 2 (some .int), .fieldLink RX2 18 "ShipFromItself$Hull" "restsOn" "[I"] ++ wsX20 ++ wsX30)
def wsX3_lengthOf : List Cond := .code yX3_lengthOf cX3_lengthOf 2 (some .int) :: ([.fieldLink RX3 15 "ShipFromItself$Load" "length" "[I"] ++ wsX30)
def wsX2_fits_r1 : List Cond := [Cond.methodLink RX2 61 yX2_restsOn, Cond.instanceMethod yX2_restsOn, Cond.selects RX2 yX2_restsOn yX2_restsOn, Cond.initialized RX2, Cond.code yX2_restsOn cX2_restsOn 2 (some .int), Cond.fieldLink RX2 24 "ShipFromItself$Hull" "places" "I", Cond.fieldLink RX2 18 "ShipFromItself$Hull" "restsOn" "[I", Cond.methodLink RX2 63 yX2_isPlace, Cond.instanceMethod yX2_isPlace, Cond.selects RX2 yX2_isPlace yX2_isPlace, Cond.code yX2_isPlace cX2_isPlace 2 (some .boolean), Cond.methodLink RX2 54 yX3_isOpen, Cond.instanceMethod yX3_isOpen, Cond.selects RX3 yX3_isOpen yX3_isOpen, Cond.initialized RX3, Cond.code yX3_isOpen cX3_isOpen 2 (some .boolean), Cond.fieldLink RX3 21 "ShipFromItself$Load" "timberIn" "[I", Cond.methodLink RX2 66 yX3_lengthOf, Cond.instanceMethod yX3_lengthOf, Cond.selects RX3 yX3_lengthOf yX3_lengthOf, Cond.code yX3_lengthOf cX3_lengthOf 2 (some .int), Cond.fieldLink RX3 15 "ShipFromItself$Load" "length" "[I", Cond.methodLink RX2 69 yX2_lengthOf, Cond.instanceMethod yX2_lengthOf]
def wsX2_fits_r2 : List Cond := [Cond.selects RX2 yX2_lengthOf yX2_lengthOf, Cond.code yX2_lengthOf cX2_lengthOf 2 (some .int), Cond.fieldLink RX2 9 "ShipFromItself$Hull" "length" "[I"]
def wsX2_fits : List Cond := .code yX2_fits cX2_fits 5 (some .boolean) :: ((wsX2_fits_r1 ++ wsX2_fits_r2) ++ wsX20 ++ wsX30)
def wsX3_whereIs : List Cond := .code yX3_whereIs cX3_whereIs 2 (some .int) :: ([.fieldLink RX3 9 "ShipFromItself$Load" "where" "[I"] ++ wsX30)
def wsX2_mayBeMoved_r1 : List Cond := [Cond.methodLink RX2 70 yX3_whereIs, Cond.instanceMethod yX3_whereIs, Cond.selects RX3 yX3_whereIs yX3_whereIs, Cond.initialized RX3, Cond.code yX3_whereIs cX3_whereIs 2 (some .int), Cond.fieldLink RX3 9 "ShipFromItself$Load" "where" "[I", Cond.methodLink RX2 73 yX2_fits, Cond.instanceMethod yX2_fits, Cond.selects RX2 yX2_fits yX2_fits, Cond.initialized RX2, Cond.code yX2_fits cX2_fits 5 (some .boolean), Cond.methodLink RX2 61 yX2_restsOn, Cond.instanceMethod yX2_restsOn, Cond.selects RX2 yX2_restsOn yX2_restsOn, Cond.code yX2_restsOn cX2_restsOn 2 (some .int), Cond.fieldLink RX2 24 "ShipFromItself$Hull" "places" "I", Cond.fieldLink RX2 18 "ShipFromItself$Hull" "restsOn" "[I", Cond.methodLink RX2 63 yX2_isPlace, Cond.instanceMethod yX2_isPlace, Cond.selects RX2 yX2_isPlace yX2_isPlace, Cond.code yX2_isPlace cX2_isPlace 2 (some .boolean), Cond.methodLink RX2 54 yX3_isOpen, Cond.instanceMethod yX3_isOpen, Cond.selects RX3 yX3_isOpen yX3_isOpen]
def wsX2_mayBeMoved_r2 : List Cond := [Cond.code yX3_isOpen cX3_isOpen 2 (some .boolean), Cond.fieldLink RX3 21 "ShipFromItself$Load" "timberIn" "[I", Cond.methodLink RX2 66 yX3_lengthOf, Cond.instanceMethod yX3_lengthOf, Cond.selects RX3 yX3_lengthOf yX3_lengthOf, Cond.code yX3_lengthOf cX3_lengthOf 2 (some .int), Cond.fieldLink RX3 15 "ShipFromItself$Load" "length" "[I", Cond.methodLink RX2 69 yX2_lengthOf, Cond.instanceMethod yX2_lengthOf, Cond.selects RX2 yX2_lengthOf yX2_lengthOf, Cond.code yX2_lengthOf cX2_lengthOf 2 (some .int), Cond.fieldLink RX2 9 "ShipFromItself$Hull" "length" "[I", Cond.methodLink RX2 77 yX2_mayBeTakenFrom, Cond.instanceMethod yX2_mayBeTakenFrom, Cond.selects RX2 yX2_mayBeTakenFrom yX2_mayBeTakenFrom, Cond.code yX2_mayBeTakenFrom cX2_mayBeTakenFrom 4 (some .boolean)]
def wsX2_mayBeMoved : List Cond := .code yX2_mayBeMoved cX2_mayBeMoved 5 (some .boolean) :: ((wsX2_mayBeMoved_r1 ++ wsX2_mayBeMoved_r2) ++ wsX30 ++ wsX20)
def wsX3_bringTo : List Cond := .code yX3_bringTo cX3_bringTo 4 none :: ([.fieldLink RX3 9 "ShipFromItself$Load" "where" "[I", .fieldLink RX3 21 "ShipFromItself$Load" "timberIn" "[I"] ++ wsX30)
def wsX3_cutTo : List Cond := .code yX3_cutTo cX3_cutTo 3 none :: ([.fieldLink RX3 15 "ShipFromItself$Load" "length" "[I"] ++ wsX30)
def wsX2_bringInto : List Cond := .code yX2_bringInto cX2_bringInto 4 none :: ([.methodLink RX2 81 yX3_bringTo, .instanceMethod yX3_bringTo, .selects RX3 yX3_bringTo yX3_bringTo, .initialized RX3, .code yX3_bringTo cX3_bringTo 4 none, .fieldLink RX3 9 "ShipFromItself$Load" "where" "[I", .fieldLink RX3 21 "ShipFromItself$Load" "timberIn" "[I", .methodLink RX2 69 yX2_lengthOf, .instanceMethod yX2_lengthOf, .selects RX2 yX2_lengthOf yX2_lengthOf, .initialized RX2, .code yX2_lengthOf cX2_lengthOf 2 (some .int), .fieldLink RX2 24 "ShipFromItself$Hull" "places" "I", .fieldLink RX2 9 "ShipFromItself$Hull" "length" "[I", .methodLink RX2 85 yX3_cutTo, .instanceMethod yX3_cutTo, .selects RX3 yX3_cutTo yX3_cutTo, .code yX3_cutTo cX3_cutTo 3 none, .fieldLink RX3 15 "ShipFromItself$Load" "length" "[I"] ++ wsX30 ++ wsX20)
def wsX3_waterInside : List Cond := .code yX3_waterInside cX3_waterInside 1 (some .int) :: ([.fieldLink RX3 24 "ShipFromItself$Load" "water" "I"] ++ wsX30)
def wsX3_setWater : List Cond := .code yX3_setWater cX3_setWater 2 none :: ([.fieldLink RX3 24 "ShipFromItself$Load" "water" "I"] ++ wsX30)
def wsX3_sink : List Cond := .code yX3_sink cX3_sink 1 none :: ([.fieldLink RX3 28 "ShipFromItself$Load" "sunk" "Z"] ++ wsX30)
def wsX3_timberIn : List Cond := .code yX3_timberIn cX3_timberIn 2 (some .int) :: ([.fieldLink RX3 21 "ShipFromItself$Load" "timberIn" "[I"] ++ wsX30)
def wsX3_wormsIn : List Cond := .code yX3_wormsIn cX3_wormsIn 2 (some .int) :: ([.fieldLink RX3 18 "ShipFromItself$Load" "worms" "[I"] ++ wsX30)
def wsX3_addWorm : List Cond := .code yX3_addWorm cX3_addWorm 2 none :: ([.fieldLink RX3 18 "ShipFromItself$Load" "worms" "[I"] ++ wsX30)
def wsX2_letWormsEat : List Cond := .code yX2_letWormsEat cX2_letWormsEat 4 none :: ([.fieldLink RX2 24 "ShipFromItself$Hull" "places" "I", .methodLink RX2 115 yX3_timberIn, .instanceMethod yX3_timberIn, .selects RX3 yX3_timberIn yX3_timberIn, .initialized RX3, .code yX3_timberIn cX3_timberIn 2 (some .int), .fieldLink RX3 21 "ShipFromItself$Load" "timberIn" "[I", .methodLink RX2 118 yX3_wormsIn, .instanceMethod yX3_wormsIn, .selects RX3 yX3_wormsIn yX3_wormsIn, .code yX3_wormsIn cX3_wormsIn 2 (some .int), .fieldLink RX3 18 "ShipFromItself$Load" "worms" "[I", .methodLink RX2 121 yX3_addWorm, .instanceMethod yX3_addWorm, .selects RX3 yX3_addWorm yX3_addWorm, .code yX3_addWorm cX3_addWorm 2 none, .methodLink RX2 81 yX3_bringTo, .instanceMethod yX3_bringTo, .selects RX3 yX3_bringTo yX3_bringTo, .code yX3_bringTo cX3_bringTo 4 none, .fieldLink RX3 9 "ShipFromItself$Load" "where" "[I"] ++ wsX20 ++ wsX30)
def wsX2_hangsInAir : List Cond := .code yX2_hangsInAir cX2_hangsInAir 3 (some .boolean) :: ([.methodLink RX2 61 yX2_restsOn, .instanceMethod yX2_restsOn, .selects RX2 yX2_restsOn yX2_restsOn, .initialized RX2, .code yX2_restsOn cX2_restsOn 2 (some .int), .fieldLink RX2 24 "ShipFromItself$Hull" "places" "I", .fieldLink RX2 18 "ShipFromItself$Hull" "restsOn" "[I", .methodLink RX2 54 yX3_isOpen, .instanceMethod yX3_isOpen, .selects RX3 yX3_isOpen yX3_isOpen, .initialized RX3, .code yX3_isOpen cX3_isOpen 2 (some .boolean), .fieldLink RX3 21 "ShipFromItself$Load" "timberIn" "[I"] ++ wsX20 ++ wsX30)
def wsX2_letComeDown_r1 : List Cond := [Cond.fieldLink RX2 24 "ShipFromItself$Hull" "places" "I", Cond.methodLink RX2 54 yX3_isOpen, Cond.instanceMethod yX3_isOpen, Cond.selects RX3 yX3_isOpen yX3_isOpen, Cond.initialized RX3, Cond.code yX3_isOpen cX3_isOpen 2 (some .boolean), Cond.fieldLink RX3 21 "ShipFromItself$Load" "timberIn" "[I", Cond.methodLink RX2 124 yX2_hangsInAir, Cond.instanceMethod yX2_hangsInAir, Cond.selects RX2 yX2_hangsInAir yX2_hangsInAir, Cond.initialized RX2, Cond.code yX2_hangsInAir cX2_hangsInAir 3 (some .boolean), Cond.methodLink RX2 61 yX2_restsOn, Cond.instanceMethod yX2_restsOn, Cond.selects RX2 yX2_restsOn yX2_restsOn, Cond.code yX2_restsOn cX2_restsOn 2 (some .int), Cond.fieldLink RX2 18 "ShipFromItself$Hull" "restsOn" "[I", Cond.methodLink RX2 115 yX3_timberIn, Cond.instanceMethod yX3_timberIn, Cond.selects RX3 yX3_timberIn yX3_timberIn, Cond.code yX3_timberIn cX3_timberIn 2 (some .int), Cond.methodLink RX2 81 yX3_bringTo, Cond.instanceMethod yX3_bringTo, Cond.selects RX3 yX3_bringTo yX3_bringTo]
def wsX2_letComeDown_r2 : List Cond := [Cond.code yX3_bringTo cX3_bringTo 4 none, Cond.fieldLink RX3 9 "ShipFromItself$Load" "where" "[I"]
def wsX2_letComeDown : List Cond := .code yX2_letComeDown cX2_letComeDown 3 none :: ((wsX2_letComeDown_r1 ++ wsX2_letComeDown_r2) ++ wsX20 ++ wsX30)
def wsX2_passWatch_r1 : List Cond := [Cond.fieldLink RX2 28 "ShipFromItself$Hull" "pumps" "I", Cond.methodLink RX2 95 Lib.Math.max.name, Cond.static Lib.Math.max.name, Cond.initialized "java/lang/Math", Cond.code Lib.Math.max.name Lib.Math.max.code 2 (some .int), Cond.fieldLink RX2 31 "ShipFromItself$Hull" "hold" "I", Cond.methodLink RX2 88 yX3_waterInside, Cond.instanceMethod yX3_waterInside, Cond.selects RX3 yX3_waterInside yX3_waterInside, Cond.initialized RX3, Cond.code yX3_waterInside cX3_waterInside 1 (some .int), Cond.fieldLink RX3 24 "ShipFromItself$Load" "water" "I", Cond.methodLink RX2 91 yX2_leakOf, Cond.instanceMethod yX2_leakOf, Cond.selects RX2 yX2_leakOf yX2_leakOf, Cond.initialized RX2, Cond.code yX2_leakOf cX2_leakOf 4 (some .int), Cond.fieldLink RX2 24 "ShipFromItself$Hull" "places" "I", Cond.methodLink RX2 54 yX3_isOpen, Cond.instanceMethod yX3_isOpen, Cond.selects RX3 yX3_isOpen yX3_isOpen, Cond.code yX3_isOpen cX3_isOpen 2 (some .boolean), Cond.fieldLink RX3 21 "ShipFromItself$Load" "timberIn" "[I", Cond.methodLink RX2 59 yX2_letsIn]
def wsX2_passWatch_r2 : List Cond := [Cond.instanceMethod yX2_letsIn, Cond.selects RX2 yX2_letsIn yX2_letsIn, Cond.code yX2_letsIn cX2_letsIn 2 (some .int), Cond.fieldLink RX2 15 "ShipFromItself$Hull" "letsIn" "[I", Cond.methodLink RX2 101 yX3_setWater, Cond.instanceMethod yX3_setWater, Cond.selects RX3 yX3_setWater yX3_setWater, Cond.code yX3_setWater cX3_setWater 2 none, Cond.methodLink RX2 105 yX3_sink, Cond.instanceMethod yX3_sink, Cond.selects RX3 yX3_sink yX3_sink, Cond.code yX3_sink cX3_sink 1 none, Cond.fieldLink RX3 28 "ShipFromItself$Load" "sunk" "Z", Cond.methodLink RX2 108 yX2_letWormsEat, Cond.instanceMethod yX2_letWormsEat, Cond.selects RX2 yX2_letWormsEat yX2_letWormsEat, Cond.code yX2_letWormsEat cX2_letWormsEat 4 none, Cond.methodLink RX2 115 yX3_timberIn, Cond.instanceMethod yX3_timberIn, Cond.selects RX3 yX3_timberIn yX3_timberIn, Cond.code yX3_timberIn cX3_timberIn 2 (some .int), Cond.methodLink RX2 118 yX3_wormsIn, Cond.instanceMethod yX3_wormsIn, Cond.selects RX3 yX3_wormsIn yX3_wormsIn]
def wsX2_passWatch_r3 : List Cond := [Cond.code yX3_wormsIn cX3_wormsIn 2 (some .int), Cond.fieldLink RX3 18 "ShipFromItself$Load" "worms" "[I", Cond.methodLink RX2 121 yX3_addWorm, Cond.instanceMethod yX3_addWorm, Cond.selects RX3 yX3_addWorm yX3_addWorm, Cond.code yX3_addWorm cX3_addWorm 2 none, Cond.methodLink RX2 81 yX3_bringTo, Cond.instanceMethod yX3_bringTo, Cond.selects RX3 yX3_bringTo yX3_bringTo, Cond.code yX3_bringTo cX3_bringTo 4 none, Cond.fieldLink RX3 9 "ShipFromItself$Load" "where" "[I", Cond.methodLink RX2 112 yX2_letComeDown, Cond.instanceMethod yX2_letComeDown, Cond.selects RX2 yX2_letComeDown yX2_letComeDown, Cond.code yX2_letComeDown cX2_letComeDown 3 none, Cond.methodLink RX2 124 yX2_hangsInAir, Cond.instanceMethod yX2_hangsInAir, Cond.selects RX2 yX2_hangsInAir yX2_hangsInAir, Cond.code yX2_hangsInAir cX2_hangsInAir 3 (some .boolean), Cond.methodLink RX2 61 yX2_restsOn, Cond.instanceMethod yX2_restsOn, Cond.selects RX2 yX2_restsOn yX2_restsOn, Cond.code yX2_restsOn cX2_restsOn 2 (some .int), Cond.fieldLink RX2 18 "ShipFromItself$Hull" "restsOn" "[I"]
def wsX2_passWatch : List Cond := .code yX2_passWatch cX2_passWatch 2 none :: ((wsX2_passWatch_r1 ++ (wsX2_passWatch_r2 ++ wsX2_passWatch_r3)) ++ wsX20 ++ wsX30)
def wsX3_isSunk : List Cond := .code yX3_isSunk cX3_isSunk 1 (some .boolean) :: ([.fieldLink RX3 28 "ShipFromItself$Load" "sunk" "Z"] ++ wsX30)
def wsX2_isAtRest_r1 : List Cond := [Cond.fieldLink RX2 24 "ShipFromItself$Hull" "places" "I", Cond.methodLink RX2 115 yX3_timberIn, Cond.instanceMethod yX3_timberIn, Cond.selects RX3 yX3_timberIn yX3_timberIn, Cond.initialized RX3, Cond.code yX3_timberIn cX3_timberIn 2 (some .int), Cond.fieldLink RX3 21 "ShipFromItself$Load" "timberIn" "[I", Cond.methodLink RX2 118 yX3_wormsIn, Cond.instanceMethod yX3_wormsIn, Cond.selects RX3 yX3_wormsIn yX3_wormsIn, Cond.code yX3_wormsIn cX3_wormsIn 2 (some .int), Cond.fieldLink RX3 18 "ShipFromItself$Load" "worms" "[I", Cond.methodLink RX2 54 yX3_isOpen, Cond.instanceMethod yX3_isOpen, Cond.selects RX3 yX3_isOpen yX3_isOpen, Cond.code yX3_isOpen cX3_isOpen 2 (some .boolean), Cond.methodLink RX2 124 yX2_hangsInAir, Cond.instanceMethod yX2_hangsInAir, Cond.selects RX2 yX2_hangsInAir yX2_hangsInAir, Cond.initialized RX2, Cond.code yX2_hangsInAir cX2_hangsInAir 3 (some .boolean), Cond.methodLink RX2 61 yX2_restsOn, Cond.instanceMethod yX2_restsOn, Cond.selects RX2 yX2_restsOn yX2_restsOn]
def wsX2_isAtRest_r2 : List Cond := [Cond.code yX2_restsOn cX2_restsOn 2 (some .int), Cond.fieldLink RX2 18 "ShipFromItself$Hull" "restsOn" "[I"]
def wsX2_isAtRest : List Cond := .code yX2_isAtRest cX2_isAtRest 3 (some .boolean) :: ((wsX2_isAtRest_r1 ++ wsX2_isAtRest_r2) ++ wsX20 ++ wsX30)
def wsX2_watchesAtRest : List Cond := .code yX2_watchesAtRest cX2_watchesAtRest 3 (some .int) :: ([.fieldLink RX2 28 "ShipFromItself$Hull" "pumps" "I", .fieldLink RX2 31 "ShipFromItself$Hull" "hold" "I", .methodLink RX2 91 yX2_leakOf, .instanceMethod yX2_leakOf, .selects RX2 yX2_leakOf yX2_leakOf, .initialized RX2, .code yX2_leakOf cX2_leakOf 4 (some .int), .fieldLink RX2 24 "ShipFromItself$Hull" "places" "I", .methodLink RX2 54 yX3_isOpen, .instanceMethod yX3_isOpen, .selects RX3 yX3_isOpen yX3_isOpen, .initialized RX3, .code yX3_isOpen cX3_isOpen 2 (some .boolean), .fieldLink RX3 21 "ShipFromItself$Load" "timberIn" "[I", .methodLink RX2 59 yX2_letsIn, .instanceMethod yX2_letsIn, .selects RX2 yX2_letsIn yX2_letsIn, .code yX2_letsIn cX2_letsIn 2 (some .int), .fieldLink RX2 15 "ShipFromItself$Hull" "letsIn" "[I", .methodLink RX2 88 yX3_waterInside, .instanceMethod yX3_waterInside, .selects RX3 yX3_waterInside yX3_waterInside, .code yX3_waterInside cX3_waterInside 1 (some .int), .fieldLink RX3 24 "ShipFromItself$Load" "water" "I"] ++ wsX20 ++ wsX30)
def wsX2_watchesAfloat_r1 : List Cond := [Cond.methodLink RX2 138 Lib.Math.min.name, Cond.static Lib.Math.min.name, Cond.initialized "java/lang/Math", Cond.code Lib.Math.min.name Lib.Math.min.code 2 (some .int), Cond.methodLink RX2 127 yX3_isSunk, Cond.instanceMethod yX3_isSunk, Cond.selects RX3 yX3_isSunk yX3_isSunk, Cond.initialized RX3, Cond.code yX3_isSunk cX3_isSunk 1 (some .boolean), Cond.fieldLink RX3 28 "ShipFromItself$Load" "sunk" "Z", Cond.methodLink RX2 131 yX2_isAtRest, Cond.instanceMethod yX2_isAtRest, Cond.selects RX2 yX2_isAtRest yX2_isAtRest, Cond.initialized RX2, Cond.code yX2_isAtRest cX2_isAtRest 3 (some .boolean), Cond.fieldLink RX2 24 "ShipFromItself$Hull" "places" "I", Cond.methodLink RX2 115 yX3_timberIn, Cond.instanceMethod yX3_timberIn, Cond.selects RX3 yX3_timberIn yX3_timberIn, Cond.code yX3_timberIn cX3_timberIn 2 (some .int), Cond.fieldLink RX3 21 "ShipFromItself$Load" "timberIn" "[I", Cond.methodLink RX2 118 yX3_wormsIn, Cond.instanceMethod yX3_wormsIn, Cond.selects RX3 yX3_wormsIn yX3_wormsIn]
def wsX2_watchesAfloat_r2 : List Cond := [Cond.code yX3_wormsIn cX3_wormsIn 2 (some .int), Cond.fieldLink RX3 18 "ShipFromItself$Load" "worms" "[I", Cond.methodLink RX2 54 yX3_isOpen, Cond.instanceMethod yX3_isOpen, Cond.selects RX3 yX3_isOpen yX3_isOpen, Cond.code yX3_isOpen cX3_isOpen 2 (some .boolean), Cond.methodLink RX2 124 yX2_hangsInAir, Cond.instanceMethod yX2_hangsInAir, Cond.selects RX2 yX2_hangsInAir yX2_hangsInAir, Cond.code yX2_hangsInAir cX2_hangsInAir 3 (some .boolean), Cond.methodLink RX2 61 yX2_restsOn, Cond.instanceMethod yX2_restsOn, Cond.selects RX2 yX2_restsOn yX2_restsOn, Cond.code yX2_restsOn cX2_restsOn 2 (some .int), Cond.fieldLink RX2 18 "ShipFromItself$Hull" "restsOn" "[I", Cond.methodLink RX2 135 yX2_watchesAtRest, Cond.instanceMethod yX2_watchesAtRest, Cond.selects RX2 yX2_watchesAtRest yX2_watchesAtRest, Cond.code yX2_watchesAtRest cX2_watchesAtRest 3 (some .int), Cond.fieldLink RX2 28 "ShipFromItself$Hull" "pumps" "I", Cond.fieldLink RX2 31 "ShipFromItself$Hull" "hold" "I", Cond.methodLink RX2 91 yX2_leakOf, Cond.instanceMethod yX2_leakOf, Cond.selects RX2 yX2_leakOf yX2_leakOf]
def wsX2_watchesAfloat_r3 : List Cond := [Cond.code yX2_leakOf cX2_leakOf 4 (some .int), Cond.methodLink RX2 59 yX2_letsIn, Cond.instanceMethod yX2_letsIn, Cond.selects RX2 yX2_letsIn yX2_letsIn, Cond.code yX2_letsIn cX2_letsIn 2 (some .int), Cond.fieldLink RX2 15 "ShipFromItself$Hull" "letsIn" "[I", Cond.methodLink RX2 88 yX3_waterInside, Cond.instanceMethod yX3_waterInside, Cond.selects RX3 yX3_waterInside yX3_waterInside, Cond.code yX3_waterInside cX3_waterInside 1 (some .int), Cond.fieldLink RX3 24 "ShipFromItself$Load" "water" "I", Cond.methodLink RX2 141 yX2_passWatch, Cond.instanceMethod yX2_passWatch, Cond.selects RX2 yX2_passWatch yX2_passWatch, Cond.code yX2_passWatch cX2_passWatch 2 none, Cond.methodLink RX2 95 Lib.Math.max.name, Cond.static Lib.Math.max.name, Cond.code Lib.Math.max.name Lib.Math.max.code 2 (some .int), Cond.methodLink RX2 101 yX3_setWater, Cond.instanceMethod yX3_setWater, Cond.selects RX3 yX3_setWater yX3_setWater, Cond.code yX3_setWater cX3_setWater 2 none, Cond.methodLink RX2 105 yX3_sink, Cond.instanceMethod yX3_sink]
def wsX2_watchesAfloat_r4 : List Cond := [Cond.selects RX3 yX3_sink yX3_sink, Cond.code yX3_sink cX3_sink 1 none, Cond.methodLink RX2 108 yX2_letWormsEat, Cond.instanceMethod yX2_letWormsEat, Cond.selects RX2 yX2_letWormsEat yX2_letWormsEat, Cond.code yX2_letWormsEat cX2_letWormsEat 4 none, Cond.methodLink RX2 121 yX3_addWorm, Cond.instanceMethod yX3_addWorm, Cond.selects RX3 yX3_addWorm yX3_addWorm, Cond.code yX3_addWorm cX3_addWorm 2 none, Cond.methodLink RX2 81 yX3_bringTo, Cond.instanceMethod yX3_bringTo, Cond.selects RX3 yX3_bringTo yX3_bringTo, Cond.code yX3_bringTo cX3_bringTo 4 none, Cond.fieldLink RX3 9 "ShipFromItself$Load" "where" "[I", Cond.methodLink RX2 112 yX2_letComeDown, Cond.instanceMethod yX2_letComeDown, Cond.selects RX2 yX2_letComeDown yX2_letComeDown, Cond.code yX2_letComeDown cX2_letComeDown 3 none]
def wsX2_watchesAfloat : List Cond := .code yX2_watchesAfloat cX2_watchesAfloat 3 (some .int) :: ((wsX2_watchesAfloat_r1 ++ (wsX2_watchesAfloat_r2 ++ (wsX2_watchesAfloat_r3 ++ wsX2_watchesAfloat_r4))) ++ wsX30 ++ wsX20)
def wsX3_fill_r1 : List Cond := [Cond.fieldLink RX3 9 "ShipFromItself$Load" "where" "[I", Cond.fieldLink RX3 21 "ShipFromItself$Load" "timberIn" "[I", Cond.fieldLink RX3 15 "ShipFromItself$Load" "length" "[I", Cond.fieldLink RX3 18 "ShipFromItself$Load" "worms" "[I", Cond.fieldLink RX3 24 "ShipFromItself$Load" "water" "I", Cond.fieldLink RX3 28 "ShipFromItself$Load" "sunk" "Z", Cond.methodLink RX3 32 yX2_isPlace, Cond.instanceMethod yX2_isPlace, Cond.selects RX2 yX2_isPlace yX2_isPlace, Cond.initialized RX2, Cond.code yX2_isPlace cX2_isPlace 2 (some .boolean), Cond.fieldLink RX2 24 "ShipFromItself$Hull" "places" "I", Cond.methodLink RX3 38 yX7_isFilledPlace, Cond.instanceMethod yX7_isFilledPlace, Cond.selects RX7 yX7_isFilledPlace yX7_isFilledPlace, Cond.initialized RX7, Cond.code yX7_isFilledPlace cX7_isFilledPlace 2 (some .boolean), Cond.methodLink RX7 19 yX7_byteAt, Cond.instanceMethod yX7_byteAt, Cond.selects RX7 yX7_byteAt yX7_byteAt, Cond.code yX7_byteAt cX7_byteAt 2 (some .int), Cond.fieldLink RX7 15 "ShipFromItself$Text" "size" "I", Cond.fieldLink RX7 9 "ShipFromItself$Text" "bytes" "[B", Cond.methodLink RX3 43 yX2_lengthOf]
def wsX3_fill_r2 : List Cond := [Cond.instanceMethod yX2_lengthOf, Cond.selects RX2 yX2_lengthOf yX2_lengthOf, Cond.code yX2_lengthOf cX2_lengthOf 2 (some .int), Cond.fieldLink RX2 9 "ShipFromItself$Hull" "length" "[I", Cond.methodLink RX3 47 yX7_figureAt, Cond.instanceMethod yX7_figureAt, Cond.selects RX7 yX7_figureAt yX7_figureAt, Cond.code yX7_figureAt cX7_figureAt 2 (some .int), Cond.methodLink RX3 50 yX7_bytesOfPlace, Cond.instanceMethod yX7_bytesOfPlace, Cond.selects RX7 yX7_bytesOfPlace yX7_bytesOfPlace, Cond.code yX7_bytesOfPlace cX7_bytesOfPlace 2 (some .int), Cond.methodLink RX7 23 yX7_isFilledPlace]
def wsX3_fill : List Cond := .code yX3_fill cX3_fill 6 none :: ((wsX3_fill_r1 ++ wsX3_fill_r2) ++ wsX30 ++ wsX20 ++ wsX70)
def wsX4_init : List Cond := .code yX4_init cX4_init 3 none :: ([.methodLink RX4 3 objectInit, .instanceMethod objectInit, .code objectInit ⟨#[0xb1]⟩ 1 none, .classLink RX4 9 RX3, .fieldLink RX4 11 "ShipFromItself$Rows" "steps" "[LShipFromItself$Load;", .arrayClass .int, .fieldLink RX4 17 "ShipFromItself$Rows" "row" "[I", .fieldLink RX4 21 "ShipFromItself$Rows" "moves" "I", .fieldLink RX4 25 "ShipFromItself$Rows" "begun" "Z", .fieldLink RX4 29 "ShipFromItself$Rows" "hull" "LShipFromItself$Hull;", .instantiable RX3 6, .initialized RX3, .methodLink RX4 33 yX3_init, .instanceMethod yX3_init, .code yX3_init cX3_init 2 none, .methodLink RX3 3 objectInit, .fieldLink RX3 9 "ShipFromItself$Load" "where" "[I", .fieldLink RX3 15 "ShipFromItself$Load" "length" "[I", .fieldLink RX3 18 "ShipFromItself$Load" "worms" "[I", .fieldLink RX3 21 "ShipFromItself$Load" "timberIn" "[I", .fieldLink RX3 24 "ShipFromItself$Load" "water" "I", .fieldLink RX3 28 "ShipFromItself$Load" "sunk" "Z"] ++ wsX40 ++ wsX30)
def wsX4_begin_r1 : List Cond := [Cond.fieldLink RX4 11 "ShipFromItself$Rows" "steps" "[LShipFromItself$Load;", Cond.methodLink RX4 38 Lib.Math.min.name, Cond.static Lib.Math.min.name, Cond.initialized "java/lang/Math", Cond.code Lib.Math.min.name Lib.Math.min.code 2 (some .int), Cond.methodLink RX4 44 Lib.Math.max.name, Cond.static Lib.Math.max.name, Cond.code Lib.Math.max.name Lib.Math.max.code 2 (some .int), Cond.fieldLink RX4 21 "ShipFromItself$Rows" "moves" "I", Cond.fieldLink RX4 25 "ShipFromItself$Rows" "begun" "Z", Cond.methodLink RX4 34 yX3_copyFrom, Cond.instanceMethod yX3_copyFrom, Cond.selects RX3 yX3_copyFrom yX3_copyFrom, Cond.initialized RX3, Cond.code yX3_copyFrom cX3_copyFrom 2 none, Cond.fieldLink RX3 9 "ShipFromItself$Load" "where" "[I", Cond.methodLink RX3 53 arraycopyName, Cond.native arraycopyName, Cond.static arraycopyName, Cond.initialized "java/lang/System", Cond.fieldLink RX3 15 "ShipFromItself$Load" "length" "[I", Cond.fieldLink RX3 18 "ShipFromItself$Load" "worms" "[I", Cond.fieldLink RX3 21 "ShipFromItself$Load" "timberIn" "[I", Cond.fieldLink RX3 24 "ShipFromItself$Load" "water" "I"]
def wsX4_begin_r2 : List Cond := [Cond.fieldLink RX3 28 "ShipFromItself$Load" "sunk" "Z"]
def wsX4_begin : List Cond := .code yX4_begin cX4_begin 3 none :: ((wsX4_begin_r1 ++ wsX4_begin_r2) ++ wsX40 ++ wsX30)
def wsX4_end : List Cond := .code yX4_end cX4_end 1 (some (.object "ShipFromItself$Load")) :: ([.fieldLink RX4 21 "ShipFromItself$Rows" "moves" "I", .fieldLink RX4 11 "ShipFromItself$Rows" "steps" "[LShipFromItself$Load;"] ++ wsX40)
def wsX4_copyTo : List Cond := .code yX4_copyTo cX4_copyTo 2 none :: ([.fieldLink RX4 17 "ShipFromItself$Rows" "row" "[I", .fieldLink RX4 21 "ShipFromItself$Rows" "moves" "I", .methodLink RX4 38 Lib.Math.min.name, .static Lib.Math.min.name, .initialized "java/lang/Math", .code Lib.Math.min.name Lib.Math.min.code 2 (some .int), .methodLink RX4 47 arraycopyName, .native arraycopyName, .static arraycopyName, .initialized "java/lang/System"] ++ wsX40)
def wsX4_makeNextMove_r1 : List Cond := [Cond.fieldLink RX4 17 "ShipFromItself$Rows" "row" "[I", Cond.fieldLink RX4 11 "ShipFromItself$Rows" "steps" "[LShipFromItself$Load;", Cond.fieldLink RX4 29 "ShipFromItself$Rows" "hull" "LShipFromItself$Hull;", Cond.methodLink RX4 58 yX2_mayBeMoved, Cond.instanceMethod yX2_mayBeMoved, Cond.selects RX2 yX2_mayBeMoved yX2_mayBeMoved, Cond.initialized RX2, Cond.code yX2_mayBeMoved cX2_mayBeMoved 5 (some .boolean), Cond.methodLink RX2 70 yX3_whereIs, Cond.instanceMethod yX3_whereIs, Cond.selects RX3 yX3_whereIs yX3_whereIs, Cond.initialized RX3, Cond.code yX3_whereIs cX3_whereIs 2 (some .int), Cond.fieldLink RX3 9 "ShipFromItself$Load" "where" "[I", Cond.methodLink RX2 73 yX2_fits, Cond.instanceMethod yX2_fits, Cond.selects RX2 yX2_fits yX2_fits, Cond.code yX2_fits cX2_fits 5 (some .boolean), Cond.methodLink RX2 61 yX2_restsOn, Cond.instanceMethod yX2_restsOn, Cond.selects RX2 yX2_restsOn yX2_restsOn, Cond.code yX2_restsOn cX2_restsOn 2 (some .int), Cond.fieldLink RX2 24 "ShipFromItself$Hull" "places" "I", Cond.fieldLink RX2 18 "ShipFromItself$Hull" "restsOn" "[I"]
def wsX4_makeNextMove_r2 : List Cond := [Cond.methodLink RX2 63 yX2_isPlace, Cond.instanceMethod yX2_isPlace, Cond.selects RX2 yX2_isPlace yX2_isPlace, Cond.code yX2_isPlace cX2_isPlace 2 (some .boolean), Cond.methodLink RX2 54 yX3_isOpen, Cond.instanceMethod yX3_isOpen, Cond.selects RX3 yX3_isOpen yX3_isOpen, Cond.code yX3_isOpen cX3_isOpen 2 (some .boolean), Cond.fieldLink RX3 21 "ShipFromItself$Load" "timberIn" "[I", Cond.methodLink RX2 66 yX3_lengthOf, Cond.instanceMethod yX3_lengthOf, Cond.selects RX3 yX3_lengthOf yX3_lengthOf, Cond.code yX3_lengthOf cX3_lengthOf 2 (some .int), Cond.fieldLink RX3 15 "ShipFromItself$Load" "length" "[I", Cond.methodLink RX2 69 yX2_lengthOf, Cond.instanceMethod yX2_lengthOf, Cond.selects RX2 yX2_lengthOf yX2_lengthOf, Cond.code yX2_lengthOf cX2_lengthOf 2 (some .int), Cond.fieldLink RX2 9 "ShipFromItself$Hull" "length" "[I", Cond.methodLink RX2 77 yX2_mayBeTakenFrom, Cond.instanceMethod yX2_mayBeTakenFrom, Cond.selects RX2 yX2_mayBeTakenFrom yX2_mayBeTakenFrom, Cond.code yX2_mayBeTakenFrom cX2_mayBeTakenFrom 4 (some .boolean), Cond.methodLink RX4 34 yX3_copyFrom]
def wsX4_makeNextMove_r3 : List Cond := [Cond.instanceMethod yX3_copyFrom, Cond.selects RX3 yX3_copyFrom yX3_copyFrom, Cond.code yX3_copyFrom cX3_copyFrom 2 none, Cond.methodLink RX3 53 arraycopyName, Cond.native arraycopyName, Cond.static arraycopyName, Cond.initialized "java/lang/System", Cond.fieldLink RX3 18 "ShipFromItself$Load" "worms" "[I", Cond.fieldLink RX3 24 "ShipFromItself$Load" "water" "I", Cond.fieldLink RX3 28 "ShipFromItself$Load" "sunk" "Z", Cond.methodLink RX4 64 yX2_bringInto, Cond.instanceMethod yX2_bringInto, Cond.selects RX2 yX2_bringInto yX2_bringInto, Cond.code yX2_bringInto cX2_bringInto 4 none, Cond.methodLink RX2 81 yX3_bringTo, Cond.instanceMethod yX3_bringTo, Cond.selects RX3 yX3_bringTo yX3_bringTo, Cond.code yX3_bringTo cX3_bringTo 4 none, Cond.methodLink RX2 85 yX3_cutTo, Cond.instanceMethod yX3_cutTo, Cond.selects RX3 yX3_cutTo yX3_cutTo, Cond.code yX3_cutTo cX3_cutTo 3 none]
def wsX4_makeNextMove : List Cond := .code yX4_makeNextMove cX4_makeNextMove 5 (some .boolean) :: ((wsX4_makeNextMove_r1 ++ (wsX4_makeNextMove_r2 ++ wsX4_makeNextMove_r3)) ++ wsX40 ++ wsX30 ++ wsX20)
def wsX4_next_r1 : List Cond := [Cond.fieldLink RX4 25 "ShipFromItself$Rows" "begun" "Z", Cond.fieldLink RX4 21 "ShipFromItself$Rows" "moves" "I", Cond.fieldLink RX4 17 "ShipFromItself$Rows" "row" "[I", Cond.constant RX4 53 (1000000), Cond.methodLink RX4 54 yX4_makeNextMove, Cond.instanceMethod yX4_makeNextMove, Cond.selects RX4 yX4_makeNextMove yX4_makeNextMove, Cond.initialized RX4, Cond.code yX4_makeNextMove cX4_makeNextMove 5 (some .boolean), Cond.fieldLink RX4 11 "ShipFromItself$Rows" "steps" "[LShipFromItself$Load;", Cond.fieldLink RX4 29 "ShipFromItself$Rows" "hull" "LShipFromItself$Hull;", Cond.methodLink RX4 58 yX2_mayBeMoved, Cond.instanceMethod yX2_mayBeMoved, Cond.selects RX2 yX2_mayBeMoved yX2_mayBeMoved, Cond.initialized RX2, Cond.code yX2_mayBeMoved cX2_mayBeMoved 5 (some .boolean), Cond.methodLink RX2 70 yX3_whereIs, Cond.instanceMethod yX3_whereIs, Cond.selects RX3 yX3_whereIs yX3_whereIs, Cond.initialized RX3, Cond.code yX3_whereIs cX3_whereIs 2 (some .int), Cond.fieldLink RX3 9 "ShipFromItself$Load" "where" "[I", Cond.methodLink RX2 73 yX2_fits, Cond.instanceMethod yX2_fits]
def wsX4_next_r2 : List Cond := [Cond.selects RX2 yX2_fits yX2_fits, Cond.code yX2_fits cX2_fits 5 (some .boolean), Cond.methodLink RX2 61 yX2_restsOn, Cond.instanceMethod yX2_restsOn, Cond.selects RX2 yX2_restsOn yX2_restsOn, Cond.code yX2_restsOn cX2_restsOn 2 (some .int), Cond.fieldLink RX2 24 "ShipFromItself$Hull" "places" "I", Cond.fieldLink RX2 18 "ShipFromItself$Hull" "restsOn" "[I", Cond.methodLink RX2 63 yX2_isPlace, Cond.instanceMethod yX2_isPlace, Cond.selects RX2 yX2_isPlace yX2_isPlace, Cond.code yX2_isPlace cX2_isPlace 2 (some .boolean), Cond.methodLink RX2 54 yX3_isOpen, Cond.instanceMethod yX3_isOpen, Cond.selects RX3 yX3_isOpen yX3_isOpen, Cond.code yX3_isOpen cX3_isOpen 2 (some .boolean), Cond.fieldLink RX3 21 "ShipFromItself$Load" "timberIn" "[I", Cond.methodLink RX2 66 yX3_lengthOf, Cond.instanceMethod yX3_lengthOf, Cond.selects RX3 yX3_lengthOf yX3_lengthOf, Cond.code yX3_lengthOf cX3_lengthOf 2 (some .int), Cond.fieldLink RX3 15 "ShipFromItself$Load" "length" "[I", Cond.methodLink RX2 69 yX2_lengthOf, Cond.instanceMethod yX2_lengthOf]
def wsX4_next_r3 : List Cond := [Cond.selects RX2 yX2_lengthOf yX2_lengthOf, Cond.code yX2_lengthOf cX2_lengthOf 2 (some .int), Cond.fieldLink RX2 9 "ShipFromItself$Hull" "length" "[I", Cond.methodLink RX2 77 yX2_mayBeTakenFrom, Cond.instanceMethod yX2_mayBeTakenFrom, Cond.selects RX2 yX2_mayBeTakenFrom yX2_mayBeTakenFrom, Cond.code yX2_mayBeTakenFrom cX2_mayBeTakenFrom 4 (some .boolean), Cond.methodLink RX4 34 yX3_copyFrom, Cond.instanceMethod yX3_copyFrom, Cond.selects RX3 yX3_copyFrom yX3_copyFrom, Cond.code yX3_copyFrom cX3_copyFrom 2 none, Cond.methodLink RX3 53 arraycopyName, Cond.native arraycopyName, Cond.static arraycopyName, Cond.initialized "java/lang/System", Cond.fieldLink RX3 18 "ShipFromItself$Load" "worms" "[I", Cond.fieldLink RX3 24 "ShipFromItself$Load" "water" "I", Cond.fieldLink RX3 28 "ShipFromItself$Load" "sunk" "Z", Cond.methodLink RX4 64 yX2_bringInto, Cond.instanceMethod yX2_bringInto, Cond.selects RX2 yX2_bringInto yX2_bringInto, Cond.code yX2_bringInto cX2_bringInto 4 none, Cond.methodLink RX2 81 yX3_bringTo, Cond.instanceMethod yX3_bringTo]
def wsX4_next_r4 : List Cond := [Cond.selects RX3 yX3_bringTo yX3_bringTo, Cond.code yX3_bringTo cX3_bringTo 4 none, Cond.methodLink RX2 85 yX3_cutTo, Cond.instanceMethod yX3_cutTo, Cond.selects RX3 yX3_cutTo yX3_cutTo, Cond.code yX3_cutTo cX3_cutTo 3 none]
def wsX4_next : List Cond := .code yX4_next cX4_next 4 (some .boolean) :: ((wsX4_next_r1 ++ (wsX4_next_r2 ++ (wsX4_next_r3 ++ wsX4_next_r4))) ++ wsX40 ++ wsX30 ++ wsX20)
def wsX5_init_r1 : List Cond := [Cond.methodLink RX5 3 objectInit, Cond.instanceMethod objectInit, Cond.code objectInit ⟨#[0xb1]⟩ 1 none, Cond.arrayClass .int, Cond.fieldLink RX5 9 "ShipFromItself$Search" "found" "[I", Cond.fieldLink RX5 15 "ShipFromItself$Search" "foundMoves" "I", Cond.fieldLink RX5 19 "ShipFromItself$Search" "hull" "LShipFromItself$Hull;", Cond.fieldLink RX5 23 "ShipFromItself$Search" "trial" "LShipFromItself$Load;", Cond.classLink RX5 27 RX4, Cond.instantiable RX4 5, Cond.initialized RX4, Cond.fieldLink RX5 32 "ShipFromItself$Search" "rows" "LShipFromItself$Rows;", Cond.methodLink RX5 29 yX4_init, Cond.instanceMethod yX4_init, Cond.code yX4_init cX4_init 3 none, Cond.methodLink RX4 3 objectInit, Cond.classLink RX4 9 RX3, Cond.fieldLink RX4 11 "ShipFromItself$Rows" "steps" "[LShipFromItself$Load;", Cond.fieldLink RX4 17 "ShipFromItself$Rows" "row" "[I", Cond.fieldLink RX4 21 "ShipFromItself$Rows" "moves" "I", Cond.fieldLink RX4 25 "ShipFromItself$Rows" "begun" "Z", Cond.fieldLink RX4 29 "ShipFromItself$Rows" "hull" "LShipFromItself$Hull;", Cond.instantiable RX3 6, Cond.initialized RX3]
def wsX5_init_r2 : List Cond := [Cond.methodLink RX4 33 yX3_init, Cond.instanceMethod yX3_init, Cond.code yX3_init cX3_init 2 none, Cond.methodLink RX3 3 objectInit, Cond.fieldLink RX3 9 "ShipFromItself$Load" "where" "[I", Cond.fieldLink RX3 15 "ShipFromItself$Load" "length" "[I", Cond.fieldLink RX3 18 "ShipFromItself$Load" "worms" "[I", Cond.fieldLink RX3 21 "ShipFromItself$Load" "timberIn" "[I", Cond.fieldLink RX3 24 "ShipFromItself$Load" "water" "I", Cond.fieldLink RX3 28 "ShipFromItself$Load" "sunk" "Z"]
def wsX5_init : List Cond := .code yX5_init cX5_init 3 none :: ((wsX5_init_r1 ++ wsX5_init_r2) ++ wsX50 ++ wsX40 ++ wsX30)
def wsX5_foundMove : List Cond := .code yX5_foundMove cX5_foundMove 2 (some .int) :: ([.fieldLink RX5 15 "ShipFromItself$Search" "foundMoves" "I", .fieldLink RX5 9 "ShipFromItself$Search" "found" "[I"] ++ wsX50)
def wsX5_leastLeak_r1 : List Cond := [Cond.fieldLink RX5 19 "ShipFromItself$Search" "hull" "LShipFromItself$Hull;", Cond.fieldLink RX5 15 "ShipFromItself$Search" "foundMoves" "I", Cond.fieldLink RX5 32 "ShipFromItself$Search" "rows" "LShipFromItself$Rows;", Cond.constant RX5 46 (1000000), Cond.fieldLink RX5 9 "ShipFromItself$Search" "found" "[I", Cond.methodLink RX5 36 yX2_leakOf, Cond.instanceMethod yX2_leakOf, Cond.selects RX2 yX2_leakOf yX2_leakOf, Cond.initialized RX2, Cond.code yX2_leakOf cX2_leakOf 4 (some .int), Cond.fieldLink RX2 24 "ShipFromItself$Hull" "places" "I", Cond.methodLink RX2 54 yX3_isOpen, Cond.instanceMethod yX3_isOpen, Cond.selects RX3 yX3_isOpen yX3_isOpen, Cond.initialized RX3, Cond.code yX3_isOpen cX3_isOpen 2 (some .boolean), Cond.fieldLink RX3 21 "ShipFromItself$Load" "timberIn" "[I", Cond.methodLink RX2 59 yX2_letsIn, Cond.instanceMethod yX2_letsIn, Cond.selects RX2 yX2_letsIn yX2_letsIn, Cond.code yX2_letsIn cX2_letsIn 2 (some .int), Cond.fieldLink RX2 15 "ShipFromItself$Hull" "letsIn" "[I", Cond.methodLink RX5 42 yX4_begin, Cond.instanceMethod yX4_begin]
def wsX5_leastLeak_r2 : List Cond := [Cond.selects RX4 yX4_begin yX4_begin, Cond.initialized RX4, Cond.code yX4_begin cX4_begin 3 none, Cond.fieldLink RX4 11 "ShipFromItself$Rows" "steps" "[LShipFromItself$Load;", Cond.methodLink RX4 38 Lib.Math.min.name, Cond.static Lib.Math.min.name, Cond.initialized "java/lang/Math", Cond.code Lib.Math.min.name Lib.Math.min.code 2 (some .int), Cond.methodLink RX4 44 Lib.Math.max.name, Cond.static Lib.Math.max.name, Cond.code Lib.Math.max.name Lib.Math.max.code 2 (some .int), Cond.fieldLink RX4 21 "ShipFromItself$Rows" "moves" "I", Cond.fieldLink RX4 25 "ShipFromItself$Rows" "begun" "Z", Cond.methodLink RX4 34 yX3_copyFrom, Cond.instanceMethod yX3_copyFrom, Cond.selects RX3 yX3_copyFrom yX3_copyFrom, Cond.code yX3_copyFrom cX3_copyFrom 2 none, Cond.fieldLink RX3 9 "ShipFromItself$Load" "where" "[I", Cond.methodLink RX3 53 arraycopyName, Cond.native arraycopyName, Cond.static arraycopyName, Cond.initialized "java/lang/System", Cond.fieldLink RX3 15 "ShipFromItself$Load" "length" "[I", Cond.fieldLink RX3 18 "ShipFromItself$Load" "worms" "[I"]
def wsX5_leastLeak_r3 : List Cond := [Cond.fieldLink RX3 24 "ShipFromItself$Load" "water" "I", Cond.fieldLink RX3 28 "ShipFromItself$Load" "sunk" "Z", Cond.methodLink RX5 47 yX4_next, Cond.instanceMethod yX4_next, Cond.selects RX4 yX4_next yX4_next, Cond.code yX4_next cX4_next 4 (some .boolean), Cond.fieldLink RX4 17 "ShipFromItself$Rows" "row" "[I", Cond.constant RX4 53 (1000000), Cond.methodLink RX4 54 yX4_makeNextMove, Cond.instanceMethod yX4_makeNextMove, Cond.selects RX4 yX4_makeNextMove yX4_makeNextMove, Cond.code yX4_makeNextMove cX4_makeNextMove 5 (some .boolean), Cond.fieldLink RX4 29 "ShipFromItself$Rows" "hull" "LShipFromItself$Hull;", Cond.methodLink RX4 58 yX2_mayBeMoved, Cond.instanceMethod yX2_mayBeMoved, Cond.selects RX2 yX2_mayBeMoved yX2_mayBeMoved, Cond.code yX2_mayBeMoved cX2_mayBeMoved 5 (some .boolean), Cond.methodLink RX2 70 yX3_whereIs, Cond.instanceMethod yX3_whereIs, Cond.selects RX3 yX3_whereIs yX3_whereIs, Cond.code yX3_whereIs cX3_whereIs 2 (some .int), Cond.methodLink RX2 73 yX2_fits, Cond.instanceMethod yX2_fits, Cond.selects RX2 yX2_fits yX2_fits]
def wsX5_leastLeak_r4 : List Cond := [Cond.code yX2_fits cX2_fits 5 (some .boolean), Cond.methodLink RX2 61 yX2_restsOn, Cond.instanceMethod yX2_restsOn, Cond.selects RX2 yX2_restsOn yX2_restsOn, Cond.code yX2_restsOn cX2_restsOn 2 (some .int), Cond.fieldLink RX2 18 "ShipFromItself$Hull" "restsOn" "[I", Cond.methodLink RX2 63 yX2_isPlace, Cond.instanceMethod yX2_isPlace, Cond.selects RX2 yX2_isPlace yX2_isPlace, Cond.code yX2_isPlace cX2_isPlace 2 (some .boolean), Cond.methodLink RX2 66 yX3_lengthOf, Cond.instanceMethod yX3_lengthOf, Cond.selects RX3 yX3_lengthOf yX3_lengthOf, Cond.code yX3_lengthOf cX3_lengthOf 2 (some .int), Cond.methodLink RX2 69 yX2_lengthOf, Cond.instanceMethod yX2_lengthOf, Cond.selects RX2 yX2_lengthOf yX2_lengthOf, Cond.code yX2_lengthOf cX2_lengthOf 2 (some .int), Cond.fieldLink RX2 9 "ShipFromItself$Hull" "length" "[I", Cond.methodLink RX2 77 yX2_mayBeTakenFrom, Cond.instanceMethod yX2_mayBeTakenFrom, Cond.selects RX2 yX2_mayBeTakenFrom yX2_mayBeTakenFrom, Cond.code yX2_mayBeTakenFrom cX2_mayBeTakenFrom 4 (some .boolean), Cond.methodLink RX4 64 yX2_bringInto]
def wsX5_leastLeak_r5 : List Cond := [Cond.instanceMethod yX2_bringInto, Cond.selects RX2 yX2_bringInto yX2_bringInto, Cond.code yX2_bringInto cX2_bringInto 4 none, Cond.methodLink RX2 81 yX3_bringTo, Cond.instanceMethod yX3_bringTo, Cond.selects RX3 yX3_bringTo yX3_bringTo, Cond.code yX3_bringTo cX3_bringTo 4 none, Cond.methodLink RX2 85 yX3_cutTo, Cond.instanceMethod yX3_cutTo, Cond.selects RX3 yX3_cutTo yX3_cutTo, Cond.code yX3_cutTo cX3_cutTo 3 none, Cond.methodLink RX5 51 yX4_end, Cond.instanceMethod yX4_end, Cond.selects RX4 yX4_end yX4_end, Cond.code yX4_end cX4_end 1 (some (.object "ShipFromItself$Load")), Cond.methodLink RX5 55 yX4_copyTo, Cond.instanceMethod yX4_copyTo, Cond.selects RX4 yX4_copyTo yX4_copyTo, Cond.code yX4_copyTo cX4_copyTo 2 none, Cond.methodLink RX4 47 arraycopyName]
def wsX5_leastLeak : List Cond := .code yX5_leastLeak cX5_leastLeak 7 (some .int) :: ((wsX5_leastLeak_r1 ++ (wsX5_leastLeak_r2 ++ (wsX5_leastLeak_r3 ++ (wsX5_leastLeak_r4 ++ wsX5_leastLeak_r5)))) ++ wsX50 ++ wsX20 ++ wsX30 ++ wsX40)
def wsX5_fewestMoves_r1 : List Cond := [Cond.fieldLink RX5 32 "ShipFromItself$Search" "rows" "LShipFromItself$Rows;", Cond.constant RX5 46 (1000000), Cond.fieldLink RX5 23 "ShipFromItself$Search" "trial" "LShipFromItself$Load;", Cond.fieldLink RX5 19 "ShipFromItself$Search" "hull" "LShipFromItself$Hull;", Cond.fieldLink RX5 15 "ShipFromItself$Search" "foundMoves" "I", Cond.fieldLink RX5 9 "ShipFromItself$Search" "found" "[I", Cond.methodLink RX5 42 yX4_begin, Cond.instanceMethod yX4_begin, Cond.selects RX4 yX4_begin yX4_begin, Cond.initialized RX4, Cond.code yX4_begin cX4_begin 3 none, Cond.fieldLink RX4 11 "ShipFromItself$Rows" "steps" "[LShipFromItself$Load;", Cond.methodLink RX4 38 Lib.Math.min.name, Cond.static Lib.Math.min.name, Cond.initialized "java/lang/Math", Cond.code Lib.Math.min.name Lib.Math.min.code 2 (some .int), Cond.methodLink RX4 44 Lib.Math.max.name, Cond.static Lib.Math.max.name, Cond.code Lib.Math.max.name Lib.Math.max.code 2 (some .int), Cond.fieldLink RX4 21 "ShipFromItself$Rows" "moves" "I", Cond.fieldLink RX4 25 "ShipFromItself$Rows" "begun" "Z", Cond.methodLink RX4 34 yX3_copyFrom, Cond.instanceMethod yX3_copyFrom, Cond.selects RX3 yX3_copyFrom yX3_copyFrom]
def wsX5_fewestMoves_r2 : List Cond := [Cond.initialized RX3, Cond.code yX3_copyFrom cX3_copyFrom 2 none, Cond.fieldLink RX3 9 "ShipFromItself$Load" "where" "[I", Cond.methodLink RX3 53 arraycopyName, Cond.native arraycopyName, Cond.static arraycopyName, Cond.initialized "java/lang/System", Cond.fieldLink RX3 15 "ShipFromItself$Load" "length" "[I", Cond.fieldLink RX3 18 "ShipFromItself$Load" "worms" "[I", Cond.fieldLink RX3 21 "ShipFromItself$Load" "timberIn" "[I", Cond.fieldLink RX3 24 "ShipFromItself$Load" "water" "I", Cond.fieldLink RX3 28 "ShipFromItself$Load" "sunk" "Z", Cond.methodLink RX5 47 yX4_next, Cond.instanceMethod yX4_next, Cond.selects RX4 yX4_next yX4_next, Cond.code yX4_next cX4_next 4 (some .boolean), Cond.fieldLink RX4 17 "ShipFromItself$Rows" "row" "[I", Cond.constant RX4 53 (1000000), Cond.methodLink RX4 54 yX4_makeNextMove, Cond.instanceMethod yX4_makeNextMove, Cond.selects RX4 yX4_makeNextMove yX4_makeNextMove, Cond.code yX4_makeNextMove cX4_makeNextMove 5 (some .boolean), Cond.fieldLink RX4 29 "ShipFromItself$Rows" "hull" "LShipFromItself$Hull;", Cond.methodLink RX4 58 yX2_mayBeMoved]
def wsX5_fewestMoves_r3 : List Cond := [Cond.instanceMethod yX2_mayBeMoved, Cond.selects RX2 yX2_mayBeMoved yX2_mayBeMoved, Cond.initialized RX2, Cond.code yX2_mayBeMoved cX2_mayBeMoved 5 (some .boolean), Cond.methodLink RX2 70 yX3_whereIs, Cond.instanceMethod yX3_whereIs, Cond.selects RX3 yX3_whereIs yX3_whereIs, Cond.code yX3_whereIs cX3_whereIs 2 (some .int), Cond.methodLink RX2 73 yX2_fits, Cond.instanceMethod yX2_fits, Cond.selects RX2 yX2_fits yX2_fits, Cond.code yX2_fits cX2_fits 5 (some .boolean), Cond.methodLink RX2 61 yX2_restsOn, Cond.instanceMethod yX2_restsOn, Cond.selects RX2 yX2_restsOn yX2_restsOn, Cond.code yX2_restsOn cX2_restsOn 2 (some .int), Cond.fieldLink RX2 24 "ShipFromItself$Hull" "places" "I", Cond.fieldLink RX2 18 "ShipFromItself$Hull" "restsOn" "[I", Cond.methodLink RX2 63 yX2_isPlace, Cond.instanceMethod yX2_isPlace, Cond.selects RX2 yX2_isPlace yX2_isPlace, Cond.code yX2_isPlace cX2_isPlace 2 (some .boolean), Cond.methodLink RX2 54 yX3_isOpen, Cond.instanceMethod yX3_isOpen]
def wsX5_fewestMoves_r4 : List Cond := [Cond.selects RX3 yX3_isOpen yX3_isOpen, Cond.code yX3_isOpen cX3_isOpen 2 (some .boolean), Cond.methodLink RX2 66 yX3_lengthOf, Cond.instanceMethod yX3_lengthOf, Cond.selects RX3 yX3_lengthOf yX3_lengthOf, Cond.code yX3_lengthOf cX3_lengthOf 2 (some .int), Cond.methodLink RX2 69 yX2_lengthOf, Cond.instanceMethod yX2_lengthOf, Cond.selects RX2 yX2_lengthOf yX2_lengthOf, Cond.code yX2_lengthOf cX2_lengthOf 2 (some .int), Cond.fieldLink RX2 9 "ShipFromItself$Hull" "length" "[I", Cond.methodLink RX2 77 yX2_mayBeTakenFrom, Cond.instanceMethod yX2_mayBeTakenFrom, Cond.selects RX2 yX2_mayBeTakenFrom yX2_mayBeTakenFrom, Cond.code yX2_mayBeTakenFrom cX2_mayBeTakenFrom 4 (some .boolean), Cond.methodLink RX4 64 yX2_bringInto, Cond.instanceMethod yX2_bringInto, Cond.selects RX2 yX2_bringInto yX2_bringInto, Cond.code yX2_bringInto cX2_bringInto 4 none, Cond.methodLink RX2 81 yX3_bringTo, Cond.instanceMethod yX3_bringTo, Cond.selects RX3 yX3_bringTo yX3_bringTo, Cond.code yX3_bringTo cX3_bringTo 4 none, Cond.methodLink RX2 85 yX3_cutTo]
def wsX5_fewestMoves_r5 : List Cond := [Cond.instanceMethod yX3_cutTo, Cond.selects RX3 yX3_cutTo yX3_cutTo, Cond.code yX3_cutTo cX3_cutTo 3 none, Cond.methodLink RX5 51 yX4_end, Cond.instanceMethod yX4_end, Cond.selects RX4 yX4_end yX4_end, Cond.code yX4_end cX4_end 1 (some (.object "ShipFromItself$Load")), Cond.methodLink RX5 59 yX3_copyFrom, Cond.methodLink RX5 65 yX2_watchesAfloat, Cond.instanceMethod yX2_watchesAfloat, Cond.selects RX2 yX2_watchesAfloat yX2_watchesAfloat, Cond.code yX2_watchesAfloat cX2_watchesAfloat 3 (some .int), Cond.methodLink RX2 138 Lib.Math.min.name, Cond.methodLink RX2 127 yX3_isSunk, Cond.instanceMethod yX3_isSunk, Cond.selects RX3 yX3_isSunk yX3_isSunk, Cond.code yX3_isSunk cX3_isSunk 1 (some .boolean), Cond.methodLink RX2 131 yX2_isAtRest, Cond.instanceMethod yX2_isAtRest, Cond.selects RX2 yX2_isAtRest yX2_isAtRest, Cond.code yX2_isAtRest cX2_isAtRest 3 (some .boolean), Cond.methodLink RX2 115 yX3_timberIn, Cond.instanceMethod yX3_timberIn, Cond.selects RX3 yX3_timberIn yX3_timberIn]
def wsX5_fewestMoves_r6 : List Cond := [Cond.code yX3_timberIn cX3_timberIn 2 (some .int), Cond.methodLink RX2 118 yX3_wormsIn, Cond.instanceMethod yX3_wormsIn, Cond.selects RX3 yX3_wormsIn yX3_wormsIn, Cond.code yX3_wormsIn cX3_wormsIn 2 (some .int), Cond.methodLink RX2 124 yX2_hangsInAir, Cond.instanceMethod yX2_hangsInAir, Cond.selects RX2 yX2_hangsInAir yX2_hangsInAir, Cond.code yX2_hangsInAir cX2_hangsInAir 3 (some .boolean), Cond.methodLink RX2 135 yX2_watchesAtRest, Cond.instanceMethod yX2_watchesAtRest, Cond.selects RX2 yX2_watchesAtRest yX2_watchesAtRest, Cond.code yX2_watchesAtRest cX2_watchesAtRest 3 (some .int), Cond.fieldLink RX2 28 "ShipFromItself$Hull" "pumps" "I", Cond.fieldLink RX2 31 "ShipFromItself$Hull" "hold" "I", Cond.methodLink RX2 91 yX2_leakOf, Cond.instanceMethod yX2_leakOf, Cond.selects RX2 yX2_leakOf yX2_leakOf, Cond.code yX2_leakOf cX2_leakOf 4 (some .int), Cond.methodLink RX2 59 yX2_letsIn, Cond.instanceMethod yX2_letsIn, Cond.selects RX2 yX2_letsIn yX2_letsIn, Cond.code yX2_letsIn cX2_letsIn 2 (some .int), Cond.fieldLink RX2 15 "ShipFromItself$Hull" "letsIn" "[I"]
def wsX5_fewestMoves_r7 : List Cond := [Cond.methodLink RX2 88 yX3_waterInside, Cond.instanceMethod yX3_waterInside, Cond.selects RX3 yX3_waterInside yX3_waterInside, Cond.code yX3_waterInside cX3_waterInside 1 (some .int), Cond.methodLink RX2 141 yX2_passWatch, Cond.instanceMethod yX2_passWatch, Cond.selects RX2 yX2_passWatch yX2_passWatch, Cond.code yX2_passWatch cX2_passWatch 2 none, Cond.methodLink RX2 95 Lib.Math.max.name, Cond.methodLink RX2 101 yX3_setWater, Cond.instanceMethod yX3_setWater, Cond.selects RX3 yX3_setWater yX3_setWater, Cond.code yX3_setWater cX3_setWater 2 none, Cond.methodLink RX2 105 yX3_sink, Cond.instanceMethod yX3_sink, Cond.selects RX3 yX3_sink yX3_sink, Cond.code yX3_sink cX3_sink 1 none, Cond.methodLink RX2 108 yX2_letWormsEat, Cond.instanceMethod yX2_letWormsEat, Cond.selects RX2 yX2_letWormsEat yX2_letWormsEat, Cond.code yX2_letWormsEat cX2_letWormsEat 4 none, Cond.methodLink RX2 121 yX3_addWorm, Cond.instanceMethod yX3_addWorm, Cond.selects RX3 yX3_addWorm yX3_addWorm]
def wsX5_fewestMoves_r8 : List Cond := [Cond.code yX3_addWorm cX3_addWorm 2 none, Cond.methodLink RX2 112 yX2_letComeDown, Cond.instanceMethod yX2_letComeDown, Cond.selects RX2 yX2_letComeDown yX2_letComeDown, Cond.code yX2_letComeDown cX2_letComeDown 3 none, Cond.methodLink RX5 55 yX4_copyTo, Cond.instanceMethod yX4_copyTo, Cond.selects RX4 yX4_copyTo yX4_copyTo, Cond.code yX4_copyTo cX4_copyTo 2 none, Cond.methodLink RX4 47 arraycopyName]
def wsX5_fewestMoves : List Cond := .code yX5_fewestMoves cX5_fewestMoves 5 (some .int) :: ((wsX5_fewestMoves_r1 ++ (wsX5_fewestMoves_r2 ++ (wsX5_fewestMoves_r3 ++ (wsX5_fewestMoves_r4 ++ (wsX5_fewestMoves_r5 ++ (wsX5_fewestMoves_r6 ++ (wsX5_fewestMoves_r7 ++ wsX5_fewestMoves_r8))))))) ++ wsX50 ++ wsX40 ++ wsX30 ++ wsX20)
def wsJ6_bitCount_0f7a4 : List Cond := .code yJ6_bitCount_0f7a4 cJ6_bitCount_0f7a4 1 (some .int) :: ([.constant RJ6 265 (1431655765), .constant RJ6 266 (858993459), .constant RJ6 267 (252645135)])
def wsJ6_numberOfTrailingZeros_0f7a4 : List Cond := .code yJ6_numberOfTrailingZeros_0f7a4 cJ6_numberOfTrailingZeros_0f7a4 2 (some .int) :: ([.constant RJ6 264 (65536)])
def wsX5_bitOf : List Cond := .code yX5_bitOf cX5_bitOf 1 (some .int) :: ([])
def wsX5_lastMovesTo_r1 : List Cond := [Cond.fieldLink RX5 19 "ShipFromItself$Search" "hull" "LShipFromItself$Hull;", Cond.methodLink RX5 68 yX2_openPlaces, Cond.instanceMethod yX2_openPlaces, Cond.selects RX2 yX2_openPlaces yX2_openPlaces, Cond.initialized RX2, Cond.code yX2_openPlaces cX2_openPlaces 4 (some .int), Cond.fieldLink RX2 24 "ShipFromItself$Hull" "places" "I", Cond.methodLink RX2 54 yX3_isOpen, Cond.instanceMethod yX3_isOpen, Cond.selects RX3 yX3_isOpen yX3_isOpen, Cond.initialized RX3, Cond.code yX3_isOpen cX3_isOpen 2 (some .boolean), Cond.fieldLink RX3 21 "ShipFromItself$Load" "timberIn" "[I", Cond.methodLink RX5 75 yJ6_bitCount_0f7a4, Cond.static yJ6_bitCount_0f7a4, Cond.initialized RJ6, Cond.code yJ6_bitCount_0f7a4 cJ6_bitCount_0f7a4 1 (some .int), Cond.constant RJ6 265 (1431655765), Cond.constant RJ6 266 (858993459), Cond.constant RJ6 267 (252645135), Cond.methodLink RX5 81 yJ6_numberOfTrailingZeros_0f7a4, Cond.static yJ6_numberOfTrailingZeros_0f7a4, Cond.code yJ6_numberOfTrailingZeros_0f7a4 cJ6_numberOfTrailingZeros_0f7a4 2 (some .int), Cond.constant RJ6 264 (65536)]
def wsX5_lastMovesTo_r2 : List Cond := [Cond.methodLink RX5 84 yX2_places, Cond.instanceMethod yX2_places, Cond.selects RX2 yX2_places yX2_places, Cond.code yX2_places cX2_places 1 (some .int), Cond.methodLink RX5 88 yX2_mayBeMoved, Cond.instanceMethod yX2_mayBeMoved, Cond.selects RX2 yX2_mayBeMoved yX2_mayBeMoved, Cond.code yX2_mayBeMoved cX2_mayBeMoved 5 (some .boolean), Cond.methodLink RX2 70 yX3_whereIs, Cond.instanceMethod yX3_whereIs, Cond.selects RX3 yX3_whereIs yX3_whereIs, Cond.code yX3_whereIs cX3_whereIs 2 (some .int), Cond.fieldLink RX3 9 "ShipFromItself$Load" "where" "[I", Cond.methodLink RX2 73 yX2_fits, Cond.instanceMethod yX2_fits, Cond.selects RX2 yX2_fits yX2_fits, Cond.code yX2_fits cX2_fits 5 (some .boolean), Cond.methodLink RX2 61 yX2_restsOn, Cond.instanceMethod yX2_restsOn, Cond.selects RX2 yX2_restsOn yX2_restsOn, Cond.code yX2_restsOn cX2_restsOn 2 (some .int), Cond.fieldLink RX2 18 "ShipFromItself$Hull" "restsOn" "[I", Cond.methodLink RX2 63 yX2_isPlace, Cond.instanceMethod yX2_isPlace]
def wsX5_lastMovesTo_r3 : List Cond := [Cond.selects RX2 yX2_isPlace yX2_isPlace, Cond.code yX2_isPlace cX2_isPlace 2 (some .boolean), Cond.methodLink RX2 66 yX3_lengthOf, Cond.instanceMethod yX3_lengthOf, Cond.selects RX3 yX3_lengthOf yX3_lengthOf, Cond.code yX3_lengthOf cX3_lengthOf 2 (some .int), Cond.fieldLink RX3 15 "ShipFromItself$Load" "length" "[I", Cond.methodLink RX2 69 yX2_lengthOf, Cond.instanceMethod yX2_lengthOf, Cond.selects RX2 yX2_lengthOf yX2_lengthOf, Cond.code yX2_lengthOf cX2_lengthOf 2 (some .int), Cond.fieldLink RX2 9 "ShipFromItself$Hull" "length" "[I", Cond.methodLink RX2 77 yX2_mayBeTakenFrom, Cond.instanceMethod yX2_mayBeTakenFrom, Cond.selects RX2 yX2_mayBeTakenFrom yX2_mayBeTakenFrom, Cond.code yX2_mayBeTakenFrom cX2_mayBeTakenFrom 4 (some .boolean), Cond.methodLink RX5 92 yX3_whereIs, Cond.methodLink RX5 95 yX5_bitOf, Cond.static yX5_bitOf, Cond.initialized RX5, Cond.code yX5_bitOf cX5_bitOf 1 (some .int)]
def wsX5_lastMovesTo : List Cond := .code yX5_lastMovesTo cX5_lastMovesTo 8 (some .int) :: ((wsX5_lastMovesTo_r1 ++ (wsX5_lastMovesTo_r2 ++ wsX5_lastMovesTo_r3)) ++ wsX50 ++ wsX20 ++ wsX30)
def wsX5_rowsTo_r1 : List Cond := [Cond.fieldLink RX5 19 "ShipFromItself$Search" "hull" "LShipFromItself$Hull;", Cond.fieldLink RX5 32 "ShipFromItself$Search" "rows" "LShipFromItself$Rows;", Cond.constant RX5 46 (1000000), Cond.methodLink RX5 68 yX2_openPlaces, Cond.instanceMethod yX2_openPlaces, Cond.selects RX2 yX2_openPlaces yX2_openPlaces, Cond.initialized RX2, Cond.code yX2_openPlaces cX2_openPlaces 4 (some .int), Cond.fieldLink RX2 24 "ShipFromItself$Hull" "places" "I", Cond.methodLink RX2 54 yX3_isOpen, Cond.instanceMethod yX3_isOpen, Cond.selects RX3 yX3_isOpen yX3_isOpen, Cond.initialized RX3, Cond.code yX3_isOpen cX3_isOpen 2 (some .boolean), Cond.fieldLink RX3 21 "ShipFromItself$Load" "timberIn" "[I", Cond.methodLink RX5 42 yX4_begin, Cond.instanceMethod yX4_begin, Cond.selects RX4 yX4_begin yX4_begin, Cond.initialized RX4, Cond.code yX4_begin cX4_begin 3 none, Cond.fieldLink RX4 11 "ShipFromItself$Rows" "steps" "[LShipFromItself$Load;", Cond.methodLink RX4 38 Lib.Math.min.name, Cond.static Lib.Math.min.name, Cond.initialized "java/lang/Math"]
def wsX5_rowsTo_r2 : List Cond := [Cond.code Lib.Math.min.name Lib.Math.min.code 2 (some .int), Cond.methodLink RX4 44 Lib.Math.max.name, Cond.static Lib.Math.max.name, Cond.code Lib.Math.max.name Lib.Math.max.code 2 (some .int), Cond.fieldLink RX4 21 "ShipFromItself$Rows" "moves" "I", Cond.fieldLink RX4 25 "ShipFromItself$Rows" "begun" "Z", Cond.methodLink RX4 34 yX3_copyFrom, Cond.instanceMethod yX3_copyFrom, Cond.selects RX3 yX3_copyFrom yX3_copyFrom, Cond.code yX3_copyFrom cX3_copyFrom 2 none, Cond.fieldLink RX3 9 "ShipFromItself$Load" "where" "[I", Cond.methodLink RX3 53 arraycopyName, Cond.native arraycopyName, Cond.static arraycopyName, Cond.initialized "java/lang/System", Cond.fieldLink RX3 15 "ShipFromItself$Load" "length" "[I", Cond.fieldLink RX3 18 "ShipFromItself$Load" "worms" "[I", Cond.fieldLink RX3 24 "ShipFromItself$Load" "water" "I", Cond.fieldLink RX3 28 "ShipFromItself$Load" "sunk" "Z", Cond.methodLink RX5 47 yX4_next, Cond.instanceMethod yX4_next, Cond.selects RX4 yX4_next yX4_next, Cond.code yX4_next cX4_next 4 (some .boolean), Cond.fieldLink RX4 17 "ShipFromItself$Rows" "row" "[I"]
def wsX5_rowsTo_r3 : List Cond := [Cond.constant RX4 53 (1000000), Cond.methodLink RX4 54 yX4_makeNextMove, Cond.instanceMethod yX4_makeNextMove, Cond.selects RX4 yX4_makeNextMove yX4_makeNextMove, Cond.code yX4_makeNextMove cX4_makeNextMove 5 (some .boolean), Cond.fieldLink RX4 29 "ShipFromItself$Rows" "hull" "LShipFromItself$Hull;", Cond.methodLink RX4 58 yX2_mayBeMoved, Cond.instanceMethod yX2_mayBeMoved, Cond.selects RX2 yX2_mayBeMoved yX2_mayBeMoved, Cond.code yX2_mayBeMoved cX2_mayBeMoved 5 (some .boolean), Cond.methodLink RX2 70 yX3_whereIs, Cond.instanceMethod yX3_whereIs, Cond.selects RX3 yX3_whereIs yX3_whereIs, Cond.code yX3_whereIs cX3_whereIs 2 (some .int), Cond.methodLink RX2 73 yX2_fits, Cond.instanceMethod yX2_fits, Cond.selects RX2 yX2_fits yX2_fits, Cond.code yX2_fits cX2_fits 5 (some .boolean), Cond.methodLink RX2 61 yX2_restsOn, Cond.instanceMethod yX2_restsOn, Cond.selects RX2 yX2_restsOn yX2_restsOn, Cond.code yX2_restsOn cX2_restsOn 2 (some .int), Cond.fieldLink RX2 18 "ShipFromItself$Hull" "restsOn" "[I", Cond.methodLink RX2 63 yX2_isPlace]
def wsX5_rowsTo_r4 : List Cond := [Cond.instanceMethod yX2_isPlace, Cond.selects RX2 yX2_isPlace yX2_isPlace, Cond.code yX2_isPlace cX2_isPlace 2 (some .boolean), Cond.methodLink RX2 66 yX3_lengthOf, Cond.instanceMethod yX3_lengthOf, Cond.selects RX3 yX3_lengthOf yX3_lengthOf, Cond.code yX3_lengthOf cX3_lengthOf 2 (some .int), Cond.methodLink RX2 69 yX2_lengthOf, Cond.instanceMethod yX2_lengthOf, Cond.selects RX2 yX2_lengthOf yX2_lengthOf, Cond.code yX2_lengthOf cX2_lengthOf 2 (some .int), Cond.fieldLink RX2 9 "ShipFromItself$Hull" "length" "[I", Cond.methodLink RX2 77 yX2_mayBeTakenFrom, Cond.instanceMethod yX2_mayBeTakenFrom, Cond.selects RX2 yX2_mayBeTakenFrom yX2_mayBeTakenFrom, Cond.code yX2_mayBeTakenFrom cX2_mayBeTakenFrom 4 (some .boolean), Cond.methodLink RX4 64 yX2_bringInto, Cond.instanceMethod yX2_bringInto, Cond.selects RX2 yX2_bringInto yX2_bringInto, Cond.code yX2_bringInto cX2_bringInto 4 none, Cond.methodLink RX2 81 yX3_bringTo, Cond.instanceMethod yX3_bringTo, Cond.selects RX3 yX3_bringTo yX3_bringTo, Cond.code yX3_bringTo cX3_bringTo 4 none]
def wsX5_rowsTo_r5 : List Cond := [Cond.methodLink RX2 85 yX3_cutTo, Cond.instanceMethod yX3_cutTo, Cond.selects RX3 yX3_cutTo yX3_cutTo, Cond.code yX3_cutTo cX3_cutTo 3 none, Cond.methodLink RX5 51 yX4_end, Cond.instanceMethod yX4_end, Cond.selects RX4 yX4_end yX4_end, Cond.code yX4_end cX4_end 1 (some (.object "ShipFromItself$Load")), Cond.methodLink RX5 71 yX5_lastMovesTo, Cond.instanceMethod yX5_lastMovesTo, Cond.selects RX5 yX5_lastMovesTo yX5_lastMovesTo, Cond.initialized RX5, Cond.code yX5_lastMovesTo cX5_lastMovesTo 8 (some .int), Cond.methodLink RX5 75 yJ6_bitCount_0f7a4, Cond.static yJ6_bitCount_0f7a4, Cond.initialized RJ6, Cond.code yJ6_bitCount_0f7a4 cJ6_bitCount_0f7a4 1 (some .int), Cond.constant RJ6 265 (1431655765), Cond.constant RJ6 266 (858993459), Cond.constant RJ6 267 (252645135), Cond.methodLink RX5 81 yJ6_numberOfTrailingZeros_0f7a4, Cond.static yJ6_numberOfTrailingZeros_0f7a4, Cond.code yJ6_numberOfTrailingZeros_0f7a4 cJ6_numberOfTrailingZeros_0f7a4 2 (some .int), Cond.constant RJ6 264 (65536)]
def wsX5_rowsTo_r6 : List Cond := [Cond.methodLink RX5 84 yX2_places, Cond.instanceMethod yX2_places, Cond.selects RX2 yX2_places yX2_places, Cond.code yX2_places cX2_places 1 (some .int), Cond.methodLink RX5 88 yX2_mayBeMoved, Cond.methodLink RX5 92 yX3_whereIs, Cond.methodLink RX5 95 yX5_bitOf, Cond.static yX5_bitOf, Cond.code yX5_bitOf cX5_bitOf 1 (some .int)]
def wsX5_rowsTo : List Cond := .code yX5_rowsTo cX5_rowsTo 6 (some .int) :: ((wsX5_rowsTo_r1 ++ (wsX5_rowsTo_r2 ++ (wsX5_rowsTo_r3 ++ (wsX5_rowsTo_r4 ++ (wsX5_rowsTo_r5 ++ wsX5_rowsTo_r6))))) ++ wsX50 ++ wsX20 ++ wsX30 ++ wsX40)
def wsX6_init : List Cond := .code yX6_init cX6_init 2 none :: ([.methodLink RX6 3 objectInit, .instanceMethod objectInit, .code objectInit ⟨#[0xb1]⟩ 1 none, .classLink RX6 9 RX3, .fieldLink RX6 11 "ShipFromItself$Slots" "stored" "[LShipFromItself$Load;", .arrayClass .boolean, .fieldLink RX6 17 "ShipFromItself$Slots" "filled" "[Z", .instantiable RX3 6, .initialized RX3, .methodLink RX6 21 yX3_init, .instanceMethod yX3_init, .code yX3_init cX3_init 2 none, .methodLink RX3 3 objectInit, .arrayClass .int, .fieldLink RX3 9 "ShipFromItself$Load" "where" "[I", .fieldLink RX3 15 "ShipFromItself$Load" "length" "[I", .fieldLink RX3 18 "ShipFromItself$Load" "worms" "[I", .fieldLink RX3 21 "ShipFromItself$Load" "timberIn" "[I", .fieldLink RX3 24 "ShipFromItself$Load" "water" "I", .fieldLink RX3 28 "ShipFromItself$Load" "sunk" "Z"] ++ wsX60 ++ wsX30)
def wsX6_isSlot : List Cond := .code yX6_isSlot cX6_isSlot 2 (some .boolean) :: ([])
def wsX6_isFilled : List Cond := .code yX6_isFilled cX6_isFilled 2 (some .boolean) :: ([.fieldLink RX6 17 "ShipFromItself$Slots" "filled" "[Z", .methodLink RX6 22 yX6_isSlot, .instanceMethod yX6_isSlot, .selects RX6 yX6_isSlot yX6_isSlot, .initialized RX6, .code yX6_isSlot cX6_isSlot 2 (some .boolean)] ++ wsX60)
def wsX6_store : List Cond := .code yX6_store cX6_store 3 none :: ([.fieldLink RX6 11 "ShipFromItself$Slots" "stored" "[LShipFromItself$Load;", .fieldLink RX6 17 "ShipFromItself$Slots" "filled" "[Z", .methodLink RX6 22 yX6_isSlot, .instanceMethod yX6_isSlot, .selects RX6 yX6_isSlot yX6_isSlot, .initialized RX6, .code yX6_isSlot cX6_isSlot 2 (some .boolean), .methodLink RX6 26 yX3_copyFrom, .instanceMethod yX3_copyFrom, .selects RX3 yX3_copyFrom yX3_copyFrom, .initialized RX3, .code yX3_copyFrom cX3_copyFrom 2 none, .fieldLink RX3 9 "ShipFromItself$Load" "where" "[I", .methodLink RX3 53 arraycopyName, .native arraycopyName, .static arraycopyName, .initialized "java/lang/System", .fieldLink RX3 15 "ShipFromItself$Load" "length" "[I", .fieldLink RX3 18 "ShipFromItself$Load" "worms" "[I", .fieldLink RX3 21 "ShipFromItself$Load" "timberIn" "[I", .fieldLink RX3 24 "ShipFromItself$Load" "water" "I", .fieldLink RX3 28 "ShipFromItself$Load" "sunk" "Z"] ++ wsX60 ++ wsX30)
def wsX6_bringBack_r1 : List Cond := [Cond.fieldLink RX6 11 "ShipFromItself$Slots" "stored" "[LShipFromItself$Load;", Cond.methodLink RX6 30 yX6_isFilled, Cond.instanceMethod yX6_isFilled, Cond.selects RX6 yX6_isFilled yX6_isFilled, Cond.initialized RX6, Cond.code yX6_isFilled cX6_isFilled 2 (some .boolean), Cond.fieldLink RX6 17 "ShipFromItself$Slots" "filled" "[Z", Cond.methodLink RX6 22 yX6_isSlot, Cond.instanceMethod yX6_isSlot, Cond.selects RX6 yX6_isSlot yX6_isSlot, Cond.code yX6_isSlot cX6_isSlot 2 (some .boolean), Cond.methodLink RX6 26 yX3_copyFrom, Cond.instanceMethod yX3_copyFrom, Cond.selects RX3 yX3_copyFrom yX3_copyFrom, Cond.initialized RX3, Cond.code yX3_copyFrom cX3_copyFrom 2 none, Cond.fieldLink RX3 9 "ShipFromItself$Load" "where" "[I", Cond.methodLink RX3 53 arraycopyName, Cond.native arraycopyName, Cond.static arraycopyName, Cond.initialized "java/lang/System", Cond.fieldLink RX3 15 "ShipFromItself$Load" "length" "[I", Cond.fieldLink RX3 18 "ShipFromItself$Load" "worms" "[I", Cond.fieldLink RX3 21 "ShipFromItself$Load" "timberIn" "[I"]
def wsX6_bringBack_r2 : List Cond := [Cond.fieldLink RX3 24 "ShipFromItself$Load" "water" "I", Cond.fieldLink RX3 28 "ShipFromItself$Load" "sunk" "Z"]
def wsX6_bringBack : List Cond := .code yX6_bringBack cX6_bringBack 3 none :: ((wsX6_bringBack_r1 ++ wsX6_bringBack_r2) ++ wsX60 ++ wsX30)
def wsX6_forgetAll : List Cond := .code yX6_forgetAll cX6_forgetAll 2 none :: ([.fieldLink RX6 17 "ShipFromItself$Slots" "filled" "[Z"] ++ wsX60)
def wsX7_init : List Cond := .code yX7_init cX7_init 1 none :: ([.methodLink RX7 3 objectInit, .instanceMethod objectInit, .code objectInit ⟨#[0xb1]⟩ 1 none, .arrayClass .byte, .fieldLink RX7 9 "ShipFromItself$Text" "bytes" "[B", .fieldLink RX7 15 "ShipFromItself$Text" "size" "I"] ++ wsX70)
def wsX7_hasRoomFor : List Cond := .code yX7_hasRoomFor cX7_hasRoomFor 2 (some .boolean) :: ([.fieldLink RX7 15 "ShipFromItself$Text" "size" "I", .fieldLink RX7 9 "ShipFromItself$Text" "bytes" "[B"] ++ wsX70)
def wsX7_append : List Cond := .code yX7_append cX7_append 5 none :: ([.fieldLink RX7 15 "ShipFromItself$Text" "size" "I", .fieldLink RX7 9 "ShipFromItself$Text" "bytes" "[B"] ++ wsX70)
def wsX7_clear : List Cond := .code yX7_clear cX7_clear 1 none :: ([.fieldLink RX7 15 "ShipFromItself$Text" "size" "I"] ++ wsX70)
def wsX7_isFigure : List Cond := .code yX7_isFigure cX7_isFigure 4 (some .boolean) :: ([.methodLink RX7 42 yX7_figureAt, .instanceMethod yX7_figureAt, .selects RX7 yX7_figureAt yX7_figureAt, .initialized RX7, .code yX7_figureAt cX7_figureAt 2 (some .int), .methodLink RX7 19 yX7_byteAt, .instanceMethod yX7_byteAt, .selects RX7 yX7_byteAt yX7_byteAt, .code yX7_byteAt cX7_byteAt 2 (some .int), .fieldLink RX7 15 "ShipFromItself$Text" "size" "I", .fieldLink RX7 9 "ShipFromItself$Text" "bytes" "[B"] ++ wsX70)
def wsX7_faultInHead : List Cond := .code yX7_faultInHead cX7_faultInHead 2 (some .int) :: ([.methodLink RX7 19 yX7_byteAt, .instanceMethod yX7_byteAt, .selects RX7 yX7_byteAt yX7_byteAt, .initialized RX7, .code yX7_byteAt cX7_byteAt 2 (some .int), .fieldLink RX7 15 "ShipFromItself$Text" "size" "I", .fieldLink RX7 9 "ShipFromItself$Text" "bytes" "[B", .methodLink RX7 38 yX7_isFigure, .instanceMethod yX7_isFigure, .selects RX7 yX7_isFigure yX7_isFigure, .code yX7_isFigure cX7_isFigure 4 (some .boolean), .methodLink RX7 42 yX7_figureAt, .instanceMethod yX7_figureAt, .selects RX7 yX7_figureAt yX7_figureAt, .code yX7_figureAt cX7_figureAt 2 (some .int)] ++ wsX70)
def wsX7_faultInTimber : List Cond := .code yX7_faultInTimber cX7_faultInTimber 2 (some .int) :: ([.methodLink RX7 38 yX7_isFigure, .instanceMethod yX7_isFigure, .selects RX7 yX7_isFigure yX7_isFigure, .initialized RX7, .code yX7_isFigure cX7_isFigure 4 (some .boolean), .methodLink RX7 42 yX7_figureAt, .instanceMethod yX7_figureAt, .selects RX7 yX7_figureAt yX7_figureAt, .code yX7_figureAt cX7_figureAt 2 (some .int), .methodLink RX7 19 yX7_byteAt, .instanceMethod yX7_byteAt, .selects RX7 yX7_byteAt yX7_byteAt, .code yX7_byteAt cX7_byteAt 2 (some .int), .fieldLink RX7 15 "ShipFromItself$Text" "size" "I", .fieldLink RX7 9 "ShipFromItself$Text" "bytes" "[B"] ++ wsX70)
def wsX7_faultInPlace : List Cond := .code yX7_faultInPlace cX7_faultInPlace 3 (some .int) :: ([.methodLink RX7 23 yX7_isFilledPlace, .instanceMethod yX7_isFilledPlace, .selects RX7 yX7_isFilledPlace yX7_isFilledPlace, .initialized RX7, .code yX7_isFilledPlace cX7_isFilledPlace 2 (some .boolean), .methodLink RX7 19 yX7_byteAt, .instanceMethod yX7_byteAt, .selects RX7 yX7_byteAt yX7_byteAt, .code yX7_byteAt cX7_byteAt 2 (some .int), .fieldLink RX7 15 "ShipFromItself$Text" "size" "I", .fieldLink RX7 9 "ShipFromItself$Text" "bytes" "[B", .methodLink RX7 38 yX7_isFigure, .instanceMethod yX7_isFigure, .selects RX7 yX7_isFigure yX7_isFigure, .code yX7_isFigure cX7_isFigure 4 (some .boolean), .methodLink RX7 42 yX7_figureAt, .instanceMethod yX7_figureAt, .selects RX7 yX7_figureAt yX7_figureAt, .code yX7_figureAt cX7_figureAt 2 (some .int), .methodLink RX7 45 yX7_faultInTimber, .instanceMethod yX7_faultInTimber, .selects RX7 yX7_faultInTimber yX7_faultInTimber, .code yX7_faultInTimber cX7_faultInTimber 2 (some .int)] ++ wsX70)
def wsX7_firstFault_r1 : List Cond := [Cond.fieldLink RX7 15 "ShipFromItself$Text" "size" "I", Cond.methodLink RX7 27 yX7_faultInHead, Cond.instanceMethod yX7_faultInHead, Cond.selects RX7 yX7_faultInHead yX7_faultInHead, Cond.initialized RX7, Cond.code yX7_faultInHead cX7_faultInHead 2 (some .int), Cond.methodLink RX7 19 yX7_byteAt, Cond.instanceMethod yX7_byteAt, Cond.selects RX7 yX7_byteAt yX7_byteAt, Cond.code yX7_byteAt cX7_byteAt 2 (some .int), Cond.fieldLink RX7 9 "ShipFromItself$Text" "bytes" "[B", Cond.methodLink RX7 38 yX7_isFigure, Cond.instanceMethod yX7_isFigure, Cond.selects RX7 yX7_isFigure yX7_isFigure, Cond.code yX7_isFigure cX7_isFigure 4 (some .boolean), Cond.methodLink RX7 42 yX7_figureAt, Cond.instanceMethod yX7_figureAt, Cond.selects RX7 yX7_figureAt yX7_figureAt, Cond.code yX7_figureAt cX7_figureAt 2 (some .int), Cond.methodLink RX7 31 yX7_faultInPlace, Cond.instanceMethod yX7_faultInPlace, Cond.selects RX7 yX7_faultInPlace yX7_faultInPlace, Cond.code yX7_faultInPlace cX7_faultInPlace 3 (some .int), Cond.methodLink RX7 23 yX7_isFilledPlace]
def wsX7_firstFault_r2 : List Cond := [Cond.instanceMethod yX7_isFilledPlace, Cond.selects RX7 yX7_isFilledPlace yX7_isFilledPlace, Cond.code yX7_isFilledPlace cX7_isFilledPlace 2 (some .boolean), Cond.methodLink RX7 45 yX7_faultInTimber, Cond.instanceMethod yX7_faultInTimber, Cond.selects RX7 yX7_faultInTimber yX7_faultInTimber, Cond.code yX7_faultInTimber cX7_faultInTimber 2 (some .int), Cond.methodLink RX7 35 yX7_bytesOfPlace, Cond.instanceMethod yX7_bytesOfPlace, Cond.selects RX7 yX7_bytesOfPlace yX7_bytesOfPlace, Cond.code yX7_bytesOfPlace cX7_bytesOfPlace 2 (some .int)]
def wsX7_firstFault : List Cond := .code yX7_firstFault cX7_firstFault 5 (some .int) :: ((wsX7_firstFault_r1 ++ wsX7_firstFault_r2) ++ wsX70)
def wsX8_init_r1 : List Cond := [Cond.methodLink RX8 1 objectInit, Cond.instanceMethod objectInit, Cond.code objectInit ⟨#[0xb1]⟩ 1 none, Cond.classLink RX8 7 RX7, Cond.instantiable RX7 2, Cond.initialized RX7, Cond.fieldLink RX8 10 "ShipFromItself" "text" "LShipFromItself$Text;", Cond.classLink RX8 16 RX2, Cond.instantiable RX2 7, Cond.initialized RX2, Cond.fieldLink RX8 19 "ShipFromItself" "hull" "LShipFromItself$Hull;", Cond.classLink RX8 23 RX3, Cond.instantiable RX3 6, Cond.initialized RX3, Cond.fieldLink RX8 26 "ShipFromItself" "now" "LShipFromItself$Load;", Cond.fieldLink RX8 30 "ShipFromItself" "trial" "LShipFromItself$Load;", Cond.classLink RX8 33 RX0, Cond.instantiable RX0 3, Cond.initialized RX0, Cond.fieldLink RX8 36 "ShipFromItself" "acts" "LShipFromItself$ActRow;", Cond.classLink RX8 40 RX6, Cond.instantiable RX6 2, Cond.initialized RX6, Cond.fieldLink RX8 43 "ShipFromItself" "slots" "LShipFromItself$Slots;"]
def wsX8_init_r2 : List Cond := [Cond.classLink RX8 47 RX1, Cond.instantiable RX1 2, Cond.initialized RX1, Cond.fieldLink RX8 50 "ShipFromItself" "chances" "LShipFromItself$Chances;", Cond.classLink RX8 54 RX5, Cond.instantiable RX5 5, Cond.initialized RX5, Cond.fieldLink RX8 59 "ShipFromItself" "search" "LShipFromItself$Search;", Cond.instanceMethod yX7_init, Cond.code yX7_init cX7_init 1 none, Cond.methodLink RX7 3 objectInit, Cond.arrayClass .byte, Cond.fieldLink RX7 9 "ShipFromItself$Text" "bytes" "[B", Cond.fieldLink RX7 15 "ShipFromItself$Text" "size" "I", Cond.instanceMethod yX2_init, Cond.code yX2_init cX2_init 1 none, Cond.methodLink RX2 3 objectInit, Cond.arrayClass .int, Cond.fieldLink RX2 9 "ShipFromItself$Hull" "length" "[I", Cond.fieldLink RX2 15 "ShipFromItself$Hull" "letsIn" "[I", Cond.fieldLink RX2 18 "ShipFromItself$Hull" "restsOn" "[I", Cond.fieldLink RX2 21 "ShipFromItself$Hull" "shipOf" "[I", Cond.fieldLink RX2 24 "ShipFromItself$Hull" "places" "I", Cond.fieldLink RX2 28 "ShipFromItself$Hull" "pumps" "I"]
def wsX8_init_r3 : List Cond := [Cond.fieldLink RX2 31 "ShipFromItself$Hull" "hold" "I", Cond.methodLink RX8 25 yX3_init, Cond.instanceMethod yX3_init, Cond.code yX3_init cX3_init 2 none, Cond.methodLink RX3 3 objectInit, Cond.fieldLink RX3 9 "ShipFromItself$Load" "where" "[I", Cond.fieldLink RX3 15 "ShipFromItself$Load" "length" "[I", Cond.fieldLink RX3 18 "ShipFromItself$Load" "worms" "[I", Cond.fieldLink RX3 21 "ShipFromItself$Load" "timberIn" "[I", Cond.fieldLink RX3 24 "ShipFromItself$Load" "water" "I", Cond.fieldLink RX3 28 "ShipFromItself$Load" "sunk" "Z", Cond.methodLink RX8 35 yX0_init, Cond.instanceMethod yX0_init, Cond.code yX0_init cX0_init 2 none, Cond.methodLink RX0 3 objectInit, Cond.classLink RX0 9 RX3, Cond.fieldLink RX0 11 "ShipFromItself$ActRow" "before" "[LShipFromItself$Load;", Cond.fieldLink RX0 17 "ShipFromItself$ActRow" "first" "I", Cond.fieldLink RX0 21 "ShipFromItself$ActRow" "size" "I", Cond.methodLink RX0 24 yX3_init, Cond.methodLink RX8 42 yX6_init, Cond.instanceMethod yX6_init, Cond.code yX6_init cX6_init 2 none, Cond.methodLink RX6 3 objectInit]
def wsX8_init_r4 : List Cond := [Cond.classLink RX6 9 RX3, Cond.fieldLink RX6 11 "ShipFromItself$Slots" "stored" "[LShipFromItself$Load;", Cond.arrayClass .boolean, Cond.fieldLink RX6 17 "ShipFromItself$Slots" "filled" "[Z", Cond.methodLink RX6 21 yX3_init, Cond.instanceMethod yX1_init, Cond.code yX1_init cX1_init 1 none, Cond.methodLink RX1 3 objectInit, Cond.arrayClass .long, Cond.fieldLink RX1 9 "ShipFromItself$Chances" "ways" "[J", Cond.fieldLink RX1 15 "ShipFromItself$Chances" "all" "J", Cond.methodLink RX8 56 yX5_init, Cond.instanceMethod yX5_init, Cond.code yX5_init cX5_init 3 none, Cond.methodLink RX5 3 objectInit, Cond.fieldLink RX5 9 "ShipFromItself$Search" "found" "[I", Cond.fieldLink RX5 15 "ShipFromItself$Search" "foundMoves" "I", Cond.fieldLink RX5 19 "ShipFromItself$Search" "hull" "LShipFromItself$Hull;", Cond.fieldLink RX5 23 "ShipFromItself$Search" "trial" "LShipFromItself$Load;", Cond.classLink RX5 27 RX4, Cond.instantiable RX4 5, Cond.initialized RX4, Cond.fieldLink RX5 32 "ShipFromItself$Search" "rows" "LShipFromItself$Rows;", Cond.methodLink RX5 29 yX4_init]
def wsX8_init_r5 : List Cond := [Cond.instanceMethod yX4_init, Cond.code yX4_init cX4_init 3 none, Cond.methodLink RX4 3 objectInit, Cond.classLink RX4 9 RX3, Cond.fieldLink RX4 11 "ShipFromItself$Rows" "steps" "[LShipFromItself$Load;", Cond.fieldLink RX4 17 "ShipFromItself$Rows" "row" "[I", Cond.fieldLink RX4 21 "ShipFromItself$Rows" "moves" "I", Cond.fieldLink RX4 25 "ShipFromItself$Rows" "begun" "Z", Cond.fieldLink RX4 29 "ShipFromItself$Rows" "hull" "LShipFromItself$Hull;", Cond.methodLink RX4 33 yX3_init]
def wsX8_init : List Cond := .code yX8_init cX8_init 1 none :: ((wsX8_init_r1 ++ (wsX8_init_r2 ++ (wsX8_init_r3 ++ (wsX8_init_r4 ++ wsX8_init_r5)))) ++ wsX70 ++ wsX80 ++ wsX20 ++ wsX30 ++ wsX00 ++ wsX60 ++ wsX10 ++ wsX50 ++ wsX40)
def wsX8_write : List Cond := .code yX8_write cX8_write 4 (some .int) :: ([.fieldLink RX8 10 "ShipFromItself" "text" "LShipFromItself$Text;", .methodLink RX8 63 yX7_hasRoomFor, .instanceMethod yX7_hasRoomFor, .selects RX7 yX7_hasRoomFor yX7_hasRoomFor, .initialized RX7, .code yX7_hasRoomFor cX7_hasRoomFor 2 (some .boolean), .fieldLink RX7 15 "ShipFromItself$Text" "size" "I", .fieldLink RX7 9 "ShipFromItself$Text" "bytes" "[B", .methodLink RX8 67 yX7_append, .instanceMethod yX7_append, .selects RX7 yX7_append yX7_append, .code yX7_append cX7_append 5 none, .methodLink RX8 71 yX7_size, .instanceMethod yX7_size, .selects RX7 yX7_size yX7_size, .code yX7_size cX7_size 1 (some .int)] ++ wsX80 ++ wsX70)
def wsX8_wipe : List Cond := .code yX8_wipe cX8_wipe 2 (some .int) :: ([.fieldLink RX8 10 "ShipFromItself" "text" "LShipFromItself$Text;", .methodLink RX8 71 yX7_size, .instanceMethod yX7_size, .selects RX7 yX7_size yX7_size, .initialized RX7, .code yX7_size cX7_size 1 (some .int), .fieldLink RX7 15 "ShipFromItself$Text" "size" "I", .methodLink RX8 75 yX7_clear, .instanceMethod yX7_clear, .selects RX7 yX7_clear yX7_clear, .code yX7_clear cX7_clear 1 none] ++ wsX80 ++ wsX70)
def wsX8_fault_r1 : List Cond := [Cond.fieldLink RX8 10 "ShipFromItself" "text" "LShipFromItself$Text;", Cond.methodLink RX8 78 yX7_firstFault, Cond.instanceMethod yX7_firstFault, Cond.selects RX7 yX7_firstFault yX7_firstFault, Cond.initialized RX7, Cond.code yX7_firstFault cX7_firstFault 5 (some .int), Cond.fieldLink RX7 15 "ShipFromItself$Text" "size" "I", Cond.methodLink RX7 27 yX7_faultInHead, Cond.instanceMethod yX7_faultInHead, Cond.selects RX7 yX7_faultInHead yX7_faultInHead, Cond.code yX7_faultInHead cX7_faultInHead 2 (some .int), Cond.methodLink RX7 19 yX7_byteAt, Cond.instanceMethod yX7_byteAt, Cond.selects RX7 yX7_byteAt yX7_byteAt, Cond.code yX7_byteAt cX7_byteAt 2 (some .int), Cond.fieldLink RX7 9 "ShipFromItself$Text" "bytes" "[B", Cond.methodLink RX7 38 yX7_isFigure, Cond.instanceMethod yX7_isFigure, Cond.selects RX7 yX7_isFigure yX7_isFigure, Cond.code yX7_isFigure cX7_isFigure 4 (some .boolean), Cond.methodLink RX7 42 yX7_figureAt, Cond.instanceMethod yX7_figureAt, Cond.selects RX7 yX7_figureAt yX7_figureAt, Cond.code yX7_figureAt cX7_figureAt 2 (some .int)]
def wsX8_fault_r2 : List Cond := [Cond.methodLink RX7 31 yX7_faultInPlace, Cond.instanceMethod yX7_faultInPlace, Cond.selects RX7 yX7_faultInPlace yX7_faultInPlace, Cond.code yX7_faultInPlace cX7_faultInPlace 3 (some .int), Cond.methodLink RX7 23 yX7_isFilledPlace, Cond.instanceMethod yX7_isFilledPlace, Cond.selects RX7 yX7_isFilledPlace yX7_isFilledPlace, Cond.code yX7_isFilledPlace cX7_isFilledPlace 2 (some .boolean), Cond.methodLink RX7 45 yX7_faultInTimber, Cond.instanceMethod yX7_faultInTimber, Cond.selects RX7 yX7_faultInTimber yX7_faultInTimber, Cond.code yX7_faultInTimber cX7_faultInTimber 2 (some .int), Cond.methodLink RX7 35 yX7_bytesOfPlace, Cond.instanceMethod yX7_bytesOfPlace, Cond.selects RX7 yX7_bytesOfPlace yX7_bytesOfPlace, Cond.code yX7_bytesOfPlace cX7_bytesOfPlace 2 (some .int)]
def wsX8_fault : List Cond := .code yX8_fault cX8_fault 1 (some .int) :: ((wsX8_fault_r1 ++ wsX8_fault_r2) ++ wsX80 ++ wsX70)
def wsX8_ship_r1 : List Cond := [Cond.fieldLink RX8 10 "ShipFromItself" "text" "LShipFromItself$Text;", Cond.fieldLink RX8 19 "ShipFromItself" "hull" "LShipFromItself$Hull;", Cond.fieldLink RX8 26 "ShipFromItself" "now" "LShipFromItself$Load;", Cond.fieldLink RX8 36 "ShipFromItself" "acts" "LShipFromItself$ActRow;", Cond.fieldLink RX8 43 "ShipFromItself" "slots" "LShipFromItself$Slots;", Cond.methodLink RX8 78 yX7_firstFault, Cond.instanceMethod yX7_firstFault, Cond.selects RX7 yX7_firstFault yX7_firstFault, Cond.initialized RX7, Cond.code yX7_firstFault cX7_firstFault 5 (some .int), Cond.fieldLink RX7 15 "ShipFromItself$Text" "size" "I", Cond.methodLink RX7 27 yX7_faultInHead, Cond.instanceMethod yX7_faultInHead, Cond.selects RX7 yX7_faultInHead yX7_faultInHead, Cond.code yX7_faultInHead cX7_faultInHead 2 (some .int), Cond.methodLink RX7 19 yX7_byteAt, Cond.instanceMethod yX7_byteAt, Cond.selects RX7 yX7_byteAt yX7_byteAt, Cond.code yX7_byteAt cX7_byteAt 2 (some .int), Cond.fieldLink RX7 9 "ShipFromItself$Text" "bytes" "[B", Cond.methodLink RX7 38 yX7_isFigure, Cond.instanceMethod yX7_isFigure, Cond.selects RX7 yX7_isFigure yX7_isFigure, Cond.code yX7_isFigure cX7_isFigure 4 (some .boolean)]
def wsX8_ship_r2 : List Cond := [Cond.methodLink RX7 42 yX7_figureAt, Cond.instanceMethod yX7_figureAt, Cond.selects RX7 yX7_figureAt yX7_figureAt, Cond.code yX7_figureAt cX7_figureAt 2 (some .int), Cond.methodLink RX7 31 yX7_faultInPlace, Cond.instanceMethod yX7_faultInPlace, Cond.selects RX7 yX7_faultInPlace yX7_faultInPlace, Cond.code yX7_faultInPlace cX7_faultInPlace 3 (some .int), Cond.methodLink RX7 23 yX7_isFilledPlace, Cond.instanceMethod yX7_isFilledPlace, Cond.selects RX7 yX7_isFilledPlace yX7_isFilledPlace, Cond.code yX7_isFilledPlace cX7_isFilledPlace 2 (some .boolean), Cond.methodLink RX7 45 yX7_faultInTimber, Cond.instanceMethod yX7_faultInTimber, Cond.selects RX7 yX7_faultInTimber yX7_faultInTimber, Cond.code yX7_faultInTimber cX7_faultInTimber 2 (some .int), Cond.methodLink RX7 35 yX7_bytesOfPlace, Cond.instanceMethod yX7_bytesOfPlace, Cond.selects RX7 yX7_bytesOfPlace yX7_bytesOfPlace, Cond.code yX7_bytesOfPlace cX7_bytesOfPlace 2 (some .int), Cond.methodLink RX8 81 yX2_build, Cond.instanceMethod yX2_build, Cond.selects RX2 yX2_build yX2_build, Cond.initialized RX2]
def wsX8_ship_r3 : List Cond := [Cond.code yX2_build cX2_build 4 none, Cond.fieldLink RX2 28 "ShipFromItself$Hull" "pumps" "I", Cond.fieldLink RX2 31 "ShipFromItself$Hull" "hold" "I", Cond.fieldLink RX2 24 "ShipFromItself$Hull" "places" "I", Cond.fieldLink RX2 9 "ShipFromItself$Hull" "length" "[I", Cond.fieldLink RX2 15 "ShipFromItself$Hull" "letsIn" "[I", Cond.fieldLink RX2 18 "ShipFromItself$Hull" "restsOn" "[I", Cond.fieldLink RX2 21 "ShipFromItself$Hull" "shipOf" "[I", Cond.methodLink RX2 34 yX7_figureAt, Cond.methodLink RX2 40 yX7_size, Cond.instanceMethod yX7_size, Cond.selects RX7 yX7_size yX7_size, Cond.code yX7_size cX7_size 1 (some .int), Cond.methodLink RX2 44 yX7_byteAt, Cond.methodLink RX2 47 yX7_isFilledPlace, Cond.methodLink RX2 51 yX7_bytesOfPlace, Cond.methodLink RX8 85 yX3_fill, Cond.instanceMethod yX3_fill, Cond.selects RX3 yX3_fill yX3_fill, Cond.initialized RX3, Cond.code yX3_fill cX3_fill 6 none, Cond.fieldLink RX3 9 "ShipFromItself$Load" "where" "[I", Cond.fieldLink RX3 21 "ShipFromItself$Load" "timberIn" "[I", Cond.fieldLink RX3 15 "ShipFromItself$Load" "length" "[I"]
def wsX8_ship_r4 : List Cond := [Cond.fieldLink RX3 18 "ShipFromItself$Load" "worms" "[I", Cond.fieldLink RX3 24 "ShipFromItself$Load" "water" "I", Cond.fieldLink RX3 28 "ShipFromItself$Load" "sunk" "Z", Cond.methodLink RX3 32 yX2_isPlace, Cond.instanceMethod yX2_isPlace, Cond.selects RX2 yX2_isPlace yX2_isPlace, Cond.code yX2_isPlace cX2_isPlace 2 (some .boolean), Cond.methodLink RX3 38 yX7_isFilledPlace, Cond.methodLink RX3 43 yX2_lengthOf, Cond.instanceMethod yX2_lengthOf, Cond.selects RX2 yX2_lengthOf yX2_lengthOf, Cond.code yX2_lengthOf cX2_lengthOf 2 (some .int), Cond.methodLink RX3 47 yX7_figureAt, Cond.methodLink RX3 50 yX7_bytesOfPlace, Cond.methodLink RX8 89 yX0_forgetAll, Cond.instanceMethod yX0_forgetAll, Cond.selects RX0 yX0_forgetAll yX0_forgetAll, Cond.initialized RX0, Cond.code yX0_forgetAll cX0_forgetAll 1 none, Cond.fieldLink RX0 21 "ShipFromItself$ActRow" "size" "I", Cond.methodLink RX8 92 yX6_forgetAll, Cond.instanceMethod yX6_forgetAll, Cond.selects RX6 yX6_forgetAll yX6_forgetAll, Cond.initialized RX6]
def wsX8_ship_r5 : List Cond := [Cond.code yX6_forgetAll cX6_forgetAll 2 none, Cond.fieldLink RX6 17 "ShipFromItself$Slots" "filled" "[Z", Cond.methodLink RX8 93 yX2_places, Cond.instanceMethod yX2_places, Cond.selects RX2 yX2_places yX2_places, Cond.code yX2_places cX2_places 1 (some .int)]
def wsX8_ship : List Cond := .code yX8_ship cX8_ship 1 (some .int) :: ((wsX8_ship_r1 ++ (wsX8_ship_r2 ++ (wsX8_ship_r3 ++ (wsX8_ship_r4 ++ wsX8_ship_r5)))) ++ wsX80 ++ wsX70 ++ wsX20 ++ wsX30 ++ wsX00 ++ wsX60)
def wsX8_place_r1 : List Cond := [Cond.fieldLink RX8 19 "ShipFromItself" "hull" "LShipFromItself$Hull;", Cond.fieldLink RX8 26 "ShipFromItself" "now" "LShipFromItself$Load;", Cond.methodLink RX8 96 yX2_isPlace, Cond.instanceMethod yX2_isPlace, Cond.selects RX2 yX2_isPlace yX2_isPlace, Cond.initialized RX2, Cond.code yX2_isPlace cX2_isPlace 2 (some .boolean), Cond.fieldLink RX2 24 "ShipFromItself$Hull" "places" "I", Cond.methodLink RX8 99 yX2_lengthOf, Cond.instanceMethod yX2_lengthOf, Cond.selects RX2 yX2_lengthOf yX2_lengthOf, Cond.code yX2_lengthOf cX2_lengthOf 2 (some .int), Cond.fieldLink RX2 9 "ShipFromItself$Hull" "length" "[I", Cond.methodLink RX8 103 yX2_letsIn, Cond.instanceMethod yX2_letsIn, Cond.selects RX2 yX2_letsIn yX2_letsIn, Cond.code yX2_letsIn cX2_letsIn 2 (some .int), Cond.fieldLink RX2 15 "ShipFromItself$Hull" "letsIn" "[I", Cond.methodLink RX8 106 yX2_restsOn, Cond.instanceMethod yX2_restsOn, Cond.selects RX2 yX2_restsOn yX2_restsOn, Cond.code yX2_restsOn cX2_restsOn 2 (some .int), Cond.fieldLink RX2 18 "ShipFromItself$Hull" "restsOn" "[I", Cond.methodLink RX8 109 yX3_timberIn]
def wsX8_place_r2 : List Cond := [Cond.instanceMethod yX3_timberIn, Cond.selects RX3 yX3_timberIn yX3_timberIn, Cond.initialized RX3, Cond.code yX3_timberIn cX3_timberIn 2 (some .int), Cond.fieldLink RX3 21 "ShipFromItself$Load" "timberIn" "[I"]
def wsX8_place : List Cond := .code yX8_place cX8_place 3 (some .int) :: ((wsX8_place_r1 ++ wsX8_place_r2) ++ wsX80 ++ wsX20 ++ wsX30)
def wsX8_timber_r1 : List Cond := [Cond.fieldLink RX8 19 "ShipFromItself" "hull" "LShipFromItself$Hull;", Cond.fieldLink RX8 26 "ShipFromItself" "now" "LShipFromItself$Load;", Cond.methodLink RX8 96 yX2_isPlace, Cond.instanceMethod yX2_isPlace, Cond.selects RX2 yX2_isPlace yX2_isPlace, Cond.initialized RX2, Cond.code yX2_isPlace cX2_isPlace 2 (some .boolean), Cond.fieldLink RX2 24 "ShipFromItself$Hull" "places" "I", Cond.methodLink RX8 112 yX3_whereIs, Cond.instanceMethod yX3_whereIs, Cond.selects RX3 yX3_whereIs yX3_whereIs, Cond.initialized RX3, Cond.code yX3_whereIs cX3_whereIs 2 (some .int), Cond.fieldLink RX3 9 "ShipFromItself$Load" "where" "[I", Cond.methodLink RX8 115 yX3_lengthOf, Cond.instanceMethod yX3_lengthOf, Cond.selects RX3 yX3_lengthOf yX3_lengthOf, Cond.code yX3_lengthOf cX3_lengthOf 2 (some .int), Cond.fieldLink RX3 15 "ShipFromItself$Load" "length" "[I", Cond.methodLink RX8 116 yX2_shipOf, Cond.instanceMethod yX2_shipOf, Cond.selects RX2 yX2_shipOf yX2_shipOf, Cond.code yX2_shipOf cX2_shipOf 2 (some .int), Cond.fieldLink RX2 21 "ShipFromItself$Hull" "shipOf" "[I"]
def wsX8_timber_r2 : List Cond := [Cond.methodLink RX8 119 yX3_wormsIn, Cond.instanceMethod yX3_wormsIn, Cond.selects RX3 yX3_wormsIn yX3_wormsIn, Cond.code yX3_wormsIn cX3_wormsIn 2 (some .int), Cond.fieldLink RX3 18 "ShipFromItself$Load" "worms" "[I"]
def wsX8_timber : List Cond := .code yX8_timber cX8_timber 3 (some .int) :: ((wsX8_timber_r1 ++ wsX8_timber_r2) ++ wsX80 ++ wsX20 ++ wsX30)
def wsX8_take_r1 : List Cond := [Cond.fieldLink RX8 19 "ShipFromItself" "hull" "LShipFromItself$Hull;", Cond.fieldLink RX8 26 "ShipFromItself" "now" "LShipFromItself$Load;", Cond.fieldLink RX8 36 "ShipFromItself" "acts" "LShipFromItself$ActRow;", Cond.methodLink RX8 96 yX2_isPlace, Cond.instanceMethod yX2_isPlace, Cond.selects RX2 yX2_isPlace yX2_isPlace, Cond.initialized RX2, Cond.code yX2_isPlace cX2_isPlace 2 (some .boolean), Cond.fieldLink RX2 24 "ShipFromItself$Hull" "places" "I", Cond.methodLink RX8 122 yX3_isSunk, Cond.instanceMethod yX3_isSunk, Cond.selects RX3 yX3_isSunk yX3_isSunk, Cond.initialized RX3, Cond.code yX3_isSunk cX3_isSunk 1 (some .boolean), Cond.fieldLink RX3 28 "ShipFromItself$Load" "sunk" "Z", Cond.methodLink RX8 126 yX2_mayBeTakenFrom, Cond.instanceMethod yX2_mayBeTakenFrom, Cond.selects RX2 yX2_mayBeTakenFrom yX2_mayBeTakenFrom, Cond.code yX2_mayBeTakenFrom cX2_mayBeTakenFrom 4 (some .boolean), Cond.methodLink RX2 54 yX3_isOpen, Cond.instanceMethod yX3_isOpen, Cond.selects RX3 yX3_isOpen yX3_isOpen, Cond.code yX3_isOpen cX3_isOpen 2 (some .boolean), Cond.fieldLink RX3 21 "ShipFromItself$Load" "timberIn" "[I"]
def wsX8_take_r2 : List Cond := [Cond.methodLink RX2 61 yX2_restsOn, Cond.instanceMethod yX2_restsOn, Cond.selects RX2 yX2_restsOn yX2_restsOn, Cond.code yX2_restsOn cX2_restsOn 2 (some .int), Cond.fieldLink RX2 18 "ShipFromItself$Hull" "restsOn" "[I", Cond.methodLink RX8 130 yX0_remember, Cond.instanceMethod yX0_remember, Cond.selects RX0 yX0_remember yX0_remember, Cond.initialized RX0, Cond.code yX0_remember cX0_remember 2 none, Cond.fieldLink RX0 21 "ShipFromItself$ActRow" "size" "I", Cond.fieldLink RX0 17 "ShipFromItself$ActRow" "first" "I", Cond.fieldLink RX0 11 "ShipFromItself$ActRow" "before" "[LShipFromItself$Load;", Cond.methodLink RX0 25 yJ9_floorMod_7cf53, Cond.static yJ9_floorMod_7cf53, Cond.initialized RJ9, Cond.code yJ9_floorMod_7cf53 cJ9_floorMod_7cf53 3 (some .int), Cond.methodLink RX0 31 yX0_behindLast, Cond.instanceMethod yX0_behindLast, Cond.selects RX0 yX0_behindLast yX0_behindLast, Cond.code yX0_behindLast cX0_behindLast 1 (some .int), Cond.methodLink RX0 35 yX3_copyFrom, Cond.instanceMethod yX3_copyFrom, Cond.selects RX3 yX3_copyFrom yX3_copyFrom]
def wsX8_take_r3 : List Cond := [Cond.code yX3_copyFrom cX3_copyFrom 2 none, Cond.fieldLink RX3 9 "ShipFromItself$Load" "where" "[I", Cond.methodLink RX3 53 arraycopyName, Cond.native arraycopyName, Cond.static arraycopyName, Cond.initialized "java/lang/System", Cond.fieldLink RX3 15 "ShipFromItself$Load" "length" "[I", Cond.fieldLink RX3 18 "ShipFromItself$Load" "worms" "[I", Cond.fieldLink RX3 24 "ShipFromItself$Load" "water" "I", Cond.methodLink RX8 109 yX3_timberIn, Cond.instanceMethod yX3_timberIn, Cond.selects RX3 yX3_timberIn yX3_timberIn, Cond.code yX3_timberIn cX3_timberIn 2 (some .int), Cond.methodLink RX8 134 yX3_bringTo, Cond.instanceMethod yX3_bringTo, Cond.selects RX3 yX3_bringTo yX3_bringTo, Cond.code yX3_bringTo cX3_bringTo 4 none]
def wsX8_take : List Cond := .code yX8_take cX8_take 3 (some .int) :: ((wsX8_take_r1 ++ (wsX8_take_r2 ++ wsX8_take_r3)) ++ wsX80 ++ wsX20 ++ wsX30 ++ wsX00)
def wsX8_bringInto_r1 : List Cond := [Cond.fieldLink RX8 36 "ShipFromItself" "acts" "LShipFromItself$ActRow;", Cond.fieldLink RX8 26 "ShipFromItself" "now" "LShipFromItself$Load;", Cond.fieldLink RX8 19 "ShipFromItself" "hull" "LShipFromItself$Hull;", Cond.methodLink RX8 130 yX0_remember, Cond.instanceMethod yX0_remember, Cond.selects RX0 yX0_remember yX0_remember, Cond.initialized RX0, Cond.code yX0_remember cX0_remember 2 none, Cond.fieldLink RX0 21 "ShipFromItself$ActRow" "size" "I", Cond.fieldLink RX0 17 "ShipFromItself$ActRow" "first" "I", Cond.fieldLink RX0 11 "ShipFromItself$ActRow" "before" "[LShipFromItself$Load;", Cond.methodLink RX0 25 yJ9_floorMod_7cf53, Cond.static yJ9_floorMod_7cf53, Cond.initialized RJ9, Cond.code yJ9_floorMod_7cf53 cJ9_floorMod_7cf53 3 (some .int), Cond.methodLink RX0 31 yX0_behindLast, Cond.instanceMethod yX0_behindLast, Cond.selects RX0 yX0_behindLast yX0_behindLast, Cond.code yX0_behindLast cX0_behindLast 1 (some .int), Cond.methodLink RX0 35 yX3_copyFrom, Cond.instanceMethod yX3_copyFrom, Cond.selects RX3 yX3_copyFrom yX3_copyFrom, Cond.initialized RX3, Cond.code yX3_copyFrom cX3_copyFrom 2 none]
def wsX8_bringInto_r2 : List Cond := [Cond.fieldLink RX3 9 "ShipFromItself$Load" "where" "[I", Cond.methodLink RX3 53 arraycopyName, Cond.native arraycopyName, Cond.static arraycopyName, Cond.initialized "java/lang/System", Cond.fieldLink RX3 15 "ShipFromItself$Load" "length" "[I", Cond.fieldLink RX3 18 "ShipFromItself$Load" "worms" "[I", Cond.fieldLink RX3 21 "ShipFromItself$Load" "timberIn" "[I", Cond.fieldLink RX3 24 "ShipFromItself$Load" "water" "I", Cond.fieldLink RX3 28 "ShipFromItself$Load" "sunk" "Z", Cond.methodLink RX8 246 yX2_bringInto, Cond.instanceMethod yX2_bringInto, Cond.selects RX2 yX2_bringInto yX2_bringInto, Cond.initialized RX2, Cond.code yX2_bringInto cX2_bringInto 4 none, Cond.methodLink RX2 81 yX3_bringTo, Cond.instanceMethod yX3_bringTo, Cond.selects RX3 yX3_bringTo yX3_bringTo, Cond.code yX3_bringTo cX3_bringTo 4 none, Cond.methodLink RX2 69 yX2_lengthOf, Cond.instanceMethod yX2_lengthOf, Cond.selects RX2 yX2_lengthOf yX2_lengthOf, Cond.code yX2_lengthOf cX2_lengthOf 2 (some .int), Cond.fieldLink RX2 24 "ShipFromItself$Hull" "places" "I"]
def wsX8_bringInto_r3 : List Cond := [Cond.fieldLink RX2 9 "ShipFromItself$Hull" "length" "[I", Cond.methodLink RX2 85 yX3_cutTo, Cond.instanceMethod yX3_cutTo, Cond.selects RX3 yX3_cutTo yX3_cutTo, Cond.code yX3_cutTo cX3_cutTo 3 none, Cond.methodLink RX8 115 yX3_lengthOf, Cond.instanceMethod yX3_lengthOf, Cond.selects RX3 yX3_lengthOf yX3_lengthOf, Cond.code yX3_lengthOf cX3_lengthOf 2 (some .int)]
def wsX8_bringInto : List Cond := .code yX8_bringInto cX8_bringInto 3 (some .int) :: ((wsX8_bringInto_r1 ++ (wsX8_bringInto_r2 ++ wsX8_bringInto_r3)) ++ wsX80 ++ wsX00 ++ wsX30 ++ wsX20)
def wsX8_put_r1 : List Cond := [Cond.fieldLink RX8 19 "ShipFromItself" "hull" "LShipFromItself$Hull;", Cond.fieldLink RX8 26 "ShipFromItself" "now" "LShipFromItself$Load;", Cond.methodLink RX8 96 yX2_isPlace, Cond.instanceMethod yX2_isPlace, Cond.selects RX2 yX2_isPlace yX2_isPlace, Cond.initialized RX2, Cond.code yX2_isPlace cX2_isPlace 2 (some .boolean), Cond.fieldLink RX2 24 "ShipFromItself$Hull" "places" "I", Cond.methodLink RX8 122 yX3_isSunk, Cond.instanceMethod yX3_isSunk, Cond.selects RX3 yX3_isSunk yX3_isSunk, Cond.initialized RX3, Cond.code yX3_isSunk cX3_isSunk 1 (some .boolean), Cond.fieldLink RX3 28 "ShipFromItself$Load" "sunk" "Z", Cond.methodLink RX8 112 yX3_whereIs, Cond.instanceMethod yX3_whereIs, Cond.selects RX3 yX3_whereIs yX3_whereIs, Cond.code yX3_whereIs cX3_whereIs 2 (some .int), Cond.fieldLink RX3 9 "ShipFromItself$Load" "where" "[I", Cond.methodLink RX8 138 yX2_fits, Cond.instanceMethod yX2_fits, Cond.selects RX2 yX2_fits yX2_fits, Cond.code yX2_fits cX2_fits 5 (some .boolean), Cond.methodLink RX2 61 yX2_restsOn]
def wsX8_put_r2 : List Cond := [Cond.instanceMethod yX2_restsOn, Cond.selects RX2 yX2_restsOn yX2_restsOn, Cond.code yX2_restsOn cX2_restsOn 2 (some .int), Cond.fieldLink RX2 18 "ShipFromItself$Hull" "restsOn" "[I", Cond.methodLink RX2 63 yX2_isPlace, Cond.methodLink RX2 54 yX3_isOpen, Cond.instanceMethod yX3_isOpen, Cond.selects RX3 yX3_isOpen yX3_isOpen, Cond.code yX3_isOpen cX3_isOpen 2 (some .boolean), Cond.fieldLink RX3 21 "ShipFromItself$Load" "timberIn" "[I", Cond.methodLink RX2 66 yX3_lengthOf, Cond.instanceMethod yX3_lengthOf, Cond.selects RX3 yX3_lengthOf yX3_lengthOf, Cond.code yX3_lengthOf cX3_lengthOf 2 (some .int), Cond.fieldLink RX3 15 "ShipFromItself$Load" "length" "[I", Cond.methodLink RX2 69 yX2_lengthOf, Cond.instanceMethod yX2_lengthOf, Cond.selects RX2 yX2_lengthOf yX2_lengthOf, Cond.code yX2_lengthOf cX2_lengthOf 2 (some .int), Cond.fieldLink RX2 9 "ShipFromItself$Hull" "length" "[I", Cond.methodLink RX8 142 yX8_bringInto, Cond.instanceMethod yX8_bringInto, Cond.selects RX8 yX8_bringInto yX8_bringInto, Cond.initialized RX8]
def wsX8_put_r3 : List Cond := [Cond.code yX8_bringInto cX8_bringInto 3 (some .int), Cond.fieldLink RX8 36 "ShipFromItself" "acts" "LShipFromItself$ActRow;", Cond.methodLink RX8 130 yX0_remember, Cond.instanceMethod yX0_remember, Cond.selects RX0 yX0_remember yX0_remember, Cond.initialized RX0, Cond.code yX0_remember cX0_remember 2 none, Cond.fieldLink RX0 21 "ShipFromItself$ActRow" "size" "I", Cond.fieldLink RX0 17 "ShipFromItself$ActRow" "first" "I", Cond.fieldLink RX0 11 "ShipFromItself$ActRow" "before" "[LShipFromItself$Load;", Cond.methodLink RX0 25 yJ9_floorMod_7cf53, Cond.static yJ9_floorMod_7cf53, Cond.initialized RJ9, Cond.code yJ9_floorMod_7cf53 cJ9_floorMod_7cf53 3 (some .int), Cond.methodLink RX0 31 yX0_behindLast, Cond.instanceMethod yX0_behindLast, Cond.selects RX0 yX0_behindLast yX0_behindLast, Cond.code yX0_behindLast cX0_behindLast 1 (some .int), Cond.methodLink RX0 35 yX3_copyFrom, Cond.instanceMethod yX3_copyFrom, Cond.selects RX3 yX3_copyFrom yX3_copyFrom, Cond.code yX3_copyFrom cX3_copyFrom 2 none, Cond.methodLink RX3 53 arraycopyName, Cond.native arraycopyName]
def wsX8_put_r4 : List Cond := [Cond.static arraycopyName, Cond.initialized "java/lang/System", Cond.fieldLink RX3 18 "ShipFromItself$Load" "worms" "[I", Cond.fieldLink RX3 24 "ShipFromItself$Load" "water" "I", Cond.methodLink RX8 246 yX2_bringInto, Cond.instanceMethod yX2_bringInto, Cond.selects RX2 yX2_bringInto yX2_bringInto, Cond.code yX2_bringInto cX2_bringInto 4 none, Cond.methodLink RX2 81 yX3_bringTo, Cond.instanceMethod yX3_bringTo, Cond.selects RX3 yX3_bringTo yX3_bringTo, Cond.code yX3_bringTo cX3_bringTo 4 none, Cond.methodLink RX2 85 yX3_cutTo, Cond.instanceMethod yX3_cutTo, Cond.selects RX3 yX3_cutTo yX3_cutTo, Cond.code yX3_cutTo cX3_cutTo 3 none, Cond.methodLink RX8 115 yX3_lengthOf]
def wsX8_put : List Cond := .code yX8_put cX8_put 3 (some .int) :: ((wsX8_put_r1 ++ (wsX8_put_r2 ++ (wsX8_put_r3 ++ wsX8_put_r4))) ++ wsX80 ++ wsX20 ++ wsX30 ++ wsX00)
def wsX8_move_r1 : List Cond := [Cond.fieldLink RX8 19 "ShipFromItself" "hull" "LShipFromItself$Hull;", Cond.fieldLink RX8 26 "ShipFromItself" "now" "LShipFromItself$Load;", Cond.methodLink RX8 96 yX2_isPlace, Cond.instanceMethod yX2_isPlace, Cond.selects RX2 yX2_isPlace yX2_isPlace, Cond.initialized RX2, Cond.code yX2_isPlace cX2_isPlace 2 (some .boolean), Cond.fieldLink RX2 24 "ShipFromItself$Hull" "places" "I", Cond.methodLink RX8 122 yX3_isSunk, Cond.instanceMethod yX3_isSunk, Cond.selects RX3 yX3_isSunk yX3_isSunk, Cond.initialized RX3, Cond.code yX3_isSunk cX3_isSunk 1 (some .boolean), Cond.fieldLink RX3 28 "ShipFromItself$Load" "sunk" "Z", Cond.methodLink RX8 146 yX2_mayBeMoved, Cond.instanceMethod yX2_mayBeMoved, Cond.selects RX2 yX2_mayBeMoved yX2_mayBeMoved, Cond.code yX2_mayBeMoved cX2_mayBeMoved 5 (some .boolean), Cond.methodLink RX2 70 yX3_whereIs, Cond.instanceMethod yX3_whereIs, Cond.selects RX3 yX3_whereIs yX3_whereIs, Cond.code yX3_whereIs cX3_whereIs 2 (some .int), Cond.fieldLink RX3 9 "ShipFromItself$Load" "where" "[I", Cond.methodLink RX2 73 yX2_fits]
def wsX8_move_r2 : List Cond := [Cond.instanceMethod yX2_fits, Cond.selects RX2 yX2_fits yX2_fits, Cond.code yX2_fits cX2_fits 5 (some .boolean), Cond.methodLink RX2 61 yX2_restsOn, Cond.instanceMethod yX2_restsOn, Cond.selects RX2 yX2_restsOn yX2_restsOn, Cond.code yX2_restsOn cX2_restsOn 2 (some .int), Cond.fieldLink RX2 18 "ShipFromItself$Hull" "restsOn" "[I", Cond.methodLink RX2 63 yX2_isPlace, Cond.methodLink RX2 54 yX3_isOpen, Cond.instanceMethod yX3_isOpen, Cond.selects RX3 yX3_isOpen yX3_isOpen, Cond.code yX3_isOpen cX3_isOpen 2 (some .boolean), Cond.fieldLink RX3 21 "ShipFromItself$Load" "timberIn" "[I", Cond.methodLink RX2 66 yX3_lengthOf, Cond.instanceMethod yX3_lengthOf, Cond.selects RX3 yX3_lengthOf yX3_lengthOf, Cond.code yX3_lengthOf cX3_lengthOf 2 (some .int), Cond.fieldLink RX3 15 "ShipFromItself$Load" "length" "[I", Cond.methodLink RX2 69 yX2_lengthOf, Cond.instanceMethod yX2_lengthOf, Cond.selects RX2 yX2_lengthOf yX2_lengthOf, Cond.code yX2_lengthOf cX2_lengthOf 2 (some .int), Cond.fieldLink RX2 9 "ShipFromItself$Hull" "length" "[I"]
def wsX8_move_r3 : List Cond := [Cond.methodLink RX2 77 yX2_mayBeTakenFrom, Cond.instanceMethod yX2_mayBeTakenFrom, Cond.selects RX2 yX2_mayBeTakenFrom yX2_mayBeTakenFrom, Cond.code yX2_mayBeTakenFrom cX2_mayBeTakenFrom 4 (some .boolean), Cond.methodLink RX8 142 yX8_bringInto, Cond.instanceMethod yX8_bringInto, Cond.selects RX8 yX8_bringInto yX8_bringInto, Cond.initialized RX8, Cond.code yX8_bringInto cX8_bringInto 3 (some .int), Cond.fieldLink RX8 36 "ShipFromItself" "acts" "LShipFromItself$ActRow;", Cond.methodLink RX8 130 yX0_remember, Cond.instanceMethod yX0_remember, Cond.selects RX0 yX0_remember yX0_remember, Cond.initialized RX0, Cond.code yX0_remember cX0_remember 2 none, Cond.fieldLink RX0 21 "ShipFromItself$ActRow" "size" "I", Cond.fieldLink RX0 17 "ShipFromItself$ActRow" "first" "I", Cond.fieldLink RX0 11 "ShipFromItself$ActRow" "before" "[LShipFromItself$Load;", Cond.methodLink RX0 25 yJ9_floorMod_7cf53, Cond.static yJ9_floorMod_7cf53, Cond.initialized RJ9, Cond.code yJ9_floorMod_7cf53 cJ9_floorMod_7cf53 3 (some .int), Cond.methodLink RX0 31 yX0_behindLast, Cond.instanceMethod yX0_behindLast]
def wsX8_move_r4 : List Cond := [Cond.selects RX0 yX0_behindLast yX0_behindLast, Cond.code yX0_behindLast cX0_behindLast 1 (some .int), Cond.methodLink RX0 35 yX3_copyFrom, Cond.instanceMethod yX3_copyFrom, Cond.selects RX3 yX3_copyFrom yX3_copyFrom, Cond.code yX3_copyFrom cX3_copyFrom 2 none, Cond.methodLink RX3 53 arraycopyName, Cond.native arraycopyName, Cond.static arraycopyName, Cond.initialized "java/lang/System", Cond.fieldLink RX3 18 "ShipFromItself$Load" "worms" "[I", Cond.fieldLink RX3 24 "ShipFromItself$Load" "water" "I", Cond.methodLink RX8 246 yX2_bringInto, Cond.instanceMethod yX2_bringInto, Cond.selects RX2 yX2_bringInto yX2_bringInto, Cond.code yX2_bringInto cX2_bringInto 4 none, Cond.methodLink RX2 81 yX3_bringTo, Cond.instanceMethod yX3_bringTo, Cond.selects RX3 yX3_bringTo yX3_bringTo, Cond.code yX3_bringTo cX3_bringTo 4 none, Cond.methodLink RX2 85 yX3_cutTo, Cond.instanceMethod yX3_cutTo, Cond.selects RX3 yX3_cutTo yX3_cutTo, Cond.code yX3_cutTo cX3_cutTo 3 none]
def wsX8_move_r5 : List Cond := [Cond.methodLink RX8 115 yX3_lengthOf]
def wsX8_move : List Cond := .code yX8_move cX8_move 3 (some .int) :: ((wsX8_move_r1 ++ (wsX8_move_r2 ++ (wsX8_move_r3 ++ (wsX8_move_r4 ++ wsX8_move_r5)))) ++ wsX80 ++ wsX20 ++ wsX30 ++ wsX00)
def wsX8_watch_r1 : List Cond := [Cond.fieldLink RX8 26 "ShipFromItself" "now" "LShipFromItself$Load;", Cond.fieldLink RX8 36 "ShipFromItself" "acts" "LShipFromItself$ActRow;", Cond.fieldLink RX8 19 "ShipFromItself" "hull" "LShipFromItself$Hull;", Cond.methodLink RX8 122 yX3_isSunk, Cond.instanceMethod yX3_isSunk, Cond.selects RX3 yX3_isSunk yX3_isSunk, Cond.initialized RX3, Cond.code yX3_isSunk cX3_isSunk 1 (some .boolean), Cond.fieldLink RX3 28 "ShipFromItself$Load" "sunk" "Z", Cond.methodLink RX8 130 yX0_remember, Cond.instanceMethod yX0_remember, Cond.selects RX0 yX0_remember yX0_remember, Cond.initialized RX0, Cond.code yX0_remember cX0_remember 2 none, Cond.fieldLink RX0 21 "ShipFromItself$ActRow" "size" "I", Cond.fieldLink RX0 17 "ShipFromItself$ActRow" "first" "I", Cond.fieldLink RX0 11 "ShipFromItself$ActRow" "before" "[LShipFromItself$Load;", Cond.methodLink RX0 25 yJ9_floorMod_7cf53, Cond.static yJ9_floorMod_7cf53, Cond.initialized RJ9, Cond.code yJ9_floorMod_7cf53 cJ9_floorMod_7cf53 3 (some .int), Cond.methodLink RX0 31 yX0_behindLast, Cond.instanceMethod yX0_behindLast, Cond.selects RX0 yX0_behindLast yX0_behindLast]
def wsX8_watch_r2 : List Cond := [Cond.code yX0_behindLast cX0_behindLast 1 (some .int), Cond.methodLink RX0 35 yX3_copyFrom, Cond.instanceMethod yX3_copyFrom, Cond.selects RX3 yX3_copyFrom yX3_copyFrom, Cond.code yX3_copyFrom cX3_copyFrom 2 none, Cond.fieldLink RX3 9 "ShipFromItself$Load" "where" "[I", Cond.methodLink RX3 53 arraycopyName, Cond.native arraycopyName, Cond.static arraycopyName, Cond.initialized "java/lang/System", Cond.fieldLink RX3 15 "ShipFromItself$Load" "length" "[I", Cond.fieldLink RX3 18 "ShipFromItself$Load" "worms" "[I", Cond.fieldLink RX3 21 "ShipFromItself$Load" "timberIn" "[I", Cond.fieldLink RX3 24 "ShipFromItself$Load" "water" "I", Cond.methodLink RX8 149 yX2_passWatch, Cond.instanceMethod yX2_passWatch, Cond.selects RX2 yX2_passWatch yX2_passWatch, Cond.initialized RX2, Cond.code yX2_passWatch cX2_passWatch 2 none, Cond.fieldLink RX2 28 "ShipFromItself$Hull" "pumps" "I", Cond.methodLink RX2 95 Lib.Math.max.name, Cond.static Lib.Math.max.name, Cond.initialized "java/lang/Math", Cond.code Lib.Math.max.name Lib.Math.max.code 2 (some .int)]
def wsX8_watch_r3 : List Cond := [Cond.fieldLink RX2 31 "ShipFromItself$Hull" "hold" "I", Cond.methodLink RX2 88 yX3_waterInside, Cond.instanceMethod yX3_waterInside, Cond.selects RX3 yX3_waterInside yX3_waterInside, Cond.code yX3_waterInside cX3_waterInside 1 (some .int), Cond.methodLink RX2 91 yX2_leakOf, Cond.instanceMethod yX2_leakOf, Cond.selects RX2 yX2_leakOf yX2_leakOf, Cond.code yX2_leakOf cX2_leakOf 4 (some .int), Cond.fieldLink RX2 24 "ShipFromItself$Hull" "places" "I", Cond.methodLink RX2 54 yX3_isOpen, Cond.instanceMethod yX3_isOpen, Cond.selects RX3 yX3_isOpen yX3_isOpen, Cond.code yX3_isOpen cX3_isOpen 2 (some .boolean), Cond.methodLink RX2 59 yX2_letsIn, Cond.instanceMethod yX2_letsIn, Cond.selects RX2 yX2_letsIn yX2_letsIn, Cond.code yX2_letsIn cX2_letsIn 2 (some .int), Cond.fieldLink RX2 15 "ShipFromItself$Hull" "letsIn" "[I", Cond.methodLink RX2 101 yX3_setWater, Cond.instanceMethod yX3_setWater, Cond.selects RX3 yX3_setWater yX3_setWater, Cond.code yX3_setWater cX3_setWater 2 none, Cond.methodLink RX2 105 yX3_sink]
def wsX8_watch_r4 : List Cond := [Cond.instanceMethod yX3_sink, Cond.selects RX3 yX3_sink yX3_sink, Cond.code yX3_sink cX3_sink 1 none, Cond.methodLink RX2 108 yX2_letWormsEat, Cond.instanceMethod yX2_letWormsEat, Cond.selects RX2 yX2_letWormsEat yX2_letWormsEat, Cond.code yX2_letWormsEat cX2_letWormsEat 4 none, Cond.methodLink RX2 115 yX3_timberIn, Cond.instanceMethod yX3_timberIn, Cond.selects RX3 yX3_timberIn yX3_timberIn, Cond.code yX3_timberIn cX3_timberIn 2 (some .int), Cond.methodLink RX2 118 yX3_wormsIn, Cond.instanceMethod yX3_wormsIn, Cond.selects RX3 yX3_wormsIn yX3_wormsIn, Cond.code yX3_wormsIn cX3_wormsIn 2 (some .int), Cond.methodLink RX2 121 yX3_addWorm, Cond.instanceMethod yX3_addWorm, Cond.selects RX3 yX3_addWorm yX3_addWorm, Cond.code yX3_addWorm cX3_addWorm 2 none, Cond.methodLink RX2 81 yX3_bringTo, Cond.instanceMethod yX3_bringTo, Cond.selects RX3 yX3_bringTo yX3_bringTo, Cond.code yX3_bringTo cX3_bringTo 4 none, Cond.methodLink RX2 112 yX2_letComeDown]
def wsX8_watch_r5 : List Cond := [Cond.instanceMethod yX2_letComeDown, Cond.selects RX2 yX2_letComeDown yX2_letComeDown, Cond.code yX2_letComeDown cX2_letComeDown 3 none, Cond.methodLink RX2 124 yX2_hangsInAir, Cond.instanceMethod yX2_hangsInAir, Cond.selects RX2 yX2_hangsInAir yX2_hangsInAir, Cond.code yX2_hangsInAir cX2_hangsInAir 3 (some .boolean), Cond.methodLink RX2 61 yX2_restsOn, Cond.instanceMethod yX2_restsOn, Cond.selects RX2 yX2_restsOn yX2_restsOn, Cond.code yX2_restsOn cX2_restsOn 2 (some .int), Cond.fieldLink RX2 18 "ShipFromItself$Hull" "restsOn" "[I", Cond.methodLink RX8 152 yX3_waterInside]
def wsX8_watch : List Cond := .code yX8_watch cX8_watch 1 (some .int) :: ((wsX8_watch_r1 ++ (wsX8_watch_r2 ++ (wsX8_watch_r3 ++ (wsX8_watch_r4 ++ wsX8_watch_r5)))) ++ wsX80 ++ wsX30 ++ wsX00 ++ wsX20)
def wsX8_back_r1 : List Cond := [Cond.fieldLink RX8 36 "ShipFromItself" "acts" "LShipFromItself$ActRow;", Cond.fieldLink RX8 26 "ShipFromItself" "now" "LShipFromItself$Load;", Cond.methodLink RX8 155 yX0_size, Cond.instanceMethod yX0_size, Cond.selects RX0 yX0_size yX0_size, Cond.initialized RX0, Cond.code yX0_size cX0_size 1 (some .int), Cond.fieldLink RX0 21 "ShipFromItself$ActRow" "size" "I", Cond.methodLink RX8 156 yX0_undoLast, Cond.instanceMethod yX0_undoLast, Cond.selects RX0 yX0_undoLast yX0_undoLast, Cond.code yX0_undoLast cX0_undoLast 2 none, Cond.fieldLink RX0 11 "ShipFromItself$ActRow" "before" "[LShipFromItself$Load;", Cond.methodLink RX0 31 yX0_behindLast, Cond.instanceMethod yX0_behindLast, Cond.selects RX0 yX0_behindLast yX0_behindLast, Cond.code yX0_behindLast cX0_behindLast 1 (some .int), Cond.fieldLink RX0 17 "ShipFromItself$ActRow" "first" "I", Cond.methodLink RX0 25 yJ9_floorMod_7cf53, Cond.static yJ9_floorMod_7cf53, Cond.initialized RJ9, Cond.code yJ9_floorMod_7cf53 cJ9_floorMod_7cf53 3 (some .int), Cond.methodLink RX0 35 yX3_copyFrom, Cond.instanceMethod yX3_copyFrom]
def wsX8_back_r2 : List Cond := [Cond.selects RX3 yX3_copyFrom yX3_copyFrom, Cond.initialized RX3, Cond.code yX3_copyFrom cX3_copyFrom 2 none, Cond.fieldLink RX3 9 "ShipFromItself$Load" "where" "[I", Cond.methodLink RX3 53 arraycopyName, Cond.native arraycopyName, Cond.static arraycopyName, Cond.initialized "java/lang/System", Cond.fieldLink RX3 15 "ShipFromItself$Load" "length" "[I", Cond.fieldLink RX3 18 "ShipFromItself$Load" "worms" "[I", Cond.fieldLink RX3 21 "ShipFromItself$Load" "timberIn" "[I", Cond.fieldLink RX3 24 "ShipFromItself$Load" "water" "I", Cond.fieldLink RX3 28 "ShipFromItself$Load" "sunk" "Z"]
def wsX8_back : List Cond := .code yX8_back cX8_back 1 (some .int) :: ((wsX8_back_r1 ++ wsX8_back_r2) ++ wsX80 ++ wsX00 ++ wsX30)
def wsX8_leak : List Cond := .code yX8_leak cX8_leak 1 (some .int) :: ([.fieldLink RX8 19 "ShipFromItself" "hull" "LShipFromItself$Hull;", .fieldLink RX8 26 "ShipFromItself" "now" "LShipFromItself$Load;", .methodLink RX8 159 yX2_leakOf, .instanceMethod yX2_leakOf, .selects RX2 yX2_leakOf yX2_leakOf, .initialized RX2, .code yX2_leakOf cX2_leakOf 4 (some .int), .fieldLink RX2 24 "ShipFromItself$Hull" "places" "I", .methodLink RX2 54 yX3_isOpen, .instanceMethod yX3_isOpen, .selects RX3 yX3_isOpen yX3_isOpen, .initialized RX3, .code yX3_isOpen cX3_isOpen 2 (some .boolean), .fieldLink RX3 21 "ShipFromItself$Load" "timberIn" "[I", .methodLink RX2 59 yX2_letsIn, .instanceMethod yX2_letsIn, .selects RX2 yX2_letsIn yX2_letsIn, .code yX2_letsIn cX2_letsIn 2 (some .int), .fieldLink RX2 15 "ShipFromItself$Hull" "letsIn" "[I"] ++ wsX80 ++ wsX20 ++ wsX30)
def wsX8_floats_r1 : List Cond := [Cond.fieldLink RX8 30 "ShipFromItself" "trial" "LShipFromItself$Load;", Cond.fieldLink RX8 26 "ShipFromItself" "now" "LShipFromItself$Load;", Cond.fieldLink RX8 19 "ShipFromItself" "hull" "LShipFromItself$Hull;", Cond.methodLink RX8 163 yX3_copyFrom, Cond.instanceMethod yX3_copyFrom, Cond.selects RX3 yX3_copyFrom yX3_copyFrom, Cond.initialized RX3, Cond.code yX3_copyFrom cX3_copyFrom 2 none, Cond.fieldLink RX3 9 "ShipFromItself$Load" "where" "[I", Cond.methodLink RX3 53 arraycopyName, Cond.native arraycopyName, Cond.static arraycopyName, Cond.initialized "java/lang/System", Cond.fieldLink RX3 15 "ShipFromItself$Load" "length" "[I", Cond.fieldLink RX3 18 "ShipFromItself$Load" "worms" "[I", Cond.fieldLink RX3 21 "ShipFromItself$Load" "timberIn" "[I", Cond.fieldLink RX3 24 "ShipFromItself$Load" "water" "I", Cond.fieldLink RX3 28 "ShipFromItself$Load" "sunk" "Z", Cond.methodLink RX8 166 yX2_watchesAfloat, Cond.instanceMethod yX2_watchesAfloat, Cond.selects RX2 yX2_watchesAfloat yX2_watchesAfloat, Cond.initialized RX2, Cond.code yX2_watchesAfloat cX2_watchesAfloat 3 (some .int), Cond.methodLink RX2 138 Lib.Math.min.name]
def wsX8_floats_r2 : List Cond := [Cond.static Lib.Math.min.name, Cond.initialized "java/lang/Math", Cond.code Lib.Math.min.name Lib.Math.min.code 2 (some .int), Cond.methodLink RX2 127 yX3_isSunk, Cond.instanceMethod yX3_isSunk, Cond.selects RX3 yX3_isSunk yX3_isSunk, Cond.code yX3_isSunk cX3_isSunk 1 (some .boolean), Cond.methodLink RX2 131 yX2_isAtRest, Cond.instanceMethod yX2_isAtRest, Cond.selects RX2 yX2_isAtRest yX2_isAtRest, Cond.code yX2_isAtRest cX2_isAtRest 3 (some .boolean), Cond.fieldLink RX2 24 "ShipFromItself$Hull" "places" "I", Cond.methodLink RX2 115 yX3_timberIn, Cond.instanceMethod yX3_timberIn, Cond.selects RX3 yX3_timberIn yX3_timberIn, Cond.code yX3_timberIn cX3_timberIn 2 (some .int), Cond.methodLink RX2 118 yX3_wormsIn, Cond.instanceMethod yX3_wormsIn, Cond.selects RX3 yX3_wormsIn yX3_wormsIn, Cond.code yX3_wormsIn cX3_wormsIn 2 (some .int), Cond.methodLink RX2 54 yX3_isOpen, Cond.instanceMethod yX3_isOpen, Cond.selects RX3 yX3_isOpen yX3_isOpen, Cond.code yX3_isOpen cX3_isOpen 2 (some .boolean)]
def wsX8_floats_r3 : List Cond := [Cond.methodLink RX2 124 yX2_hangsInAir, Cond.instanceMethod yX2_hangsInAir, Cond.selects RX2 yX2_hangsInAir yX2_hangsInAir, Cond.code yX2_hangsInAir cX2_hangsInAir 3 (some .boolean), Cond.methodLink RX2 61 yX2_restsOn, Cond.instanceMethod yX2_restsOn, Cond.selects RX2 yX2_restsOn yX2_restsOn, Cond.code yX2_restsOn cX2_restsOn 2 (some .int), Cond.fieldLink RX2 18 "ShipFromItself$Hull" "restsOn" "[I", Cond.methodLink RX2 135 yX2_watchesAtRest, Cond.instanceMethod yX2_watchesAtRest, Cond.selects RX2 yX2_watchesAtRest yX2_watchesAtRest, Cond.code yX2_watchesAtRest cX2_watchesAtRest 3 (some .int), Cond.fieldLink RX2 28 "ShipFromItself$Hull" "pumps" "I", Cond.fieldLink RX2 31 "ShipFromItself$Hull" "hold" "I", Cond.methodLink RX2 91 yX2_leakOf, Cond.instanceMethod yX2_leakOf, Cond.selects RX2 yX2_leakOf yX2_leakOf, Cond.code yX2_leakOf cX2_leakOf 4 (some .int), Cond.methodLink RX2 59 yX2_letsIn, Cond.instanceMethod yX2_letsIn, Cond.selects RX2 yX2_letsIn yX2_letsIn, Cond.code yX2_letsIn cX2_letsIn 2 (some .int), Cond.fieldLink RX2 15 "ShipFromItself$Hull" "letsIn" "[I"]
def wsX8_floats_r4 : List Cond := [Cond.methodLink RX2 88 yX3_waterInside, Cond.instanceMethod yX3_waterInside, Cond.selects RX3 yX3_waterInside yX3_waterInside, Cond.code yX3_waterInside cX3_waterInside 1 (some .int), Cond.methodLink RX2 141 yX2_passWatch, Cond.instanceMethod yX2_passWatch, Cond.selects RX2 yX2_passWatch yX2_passWatch, Cond.code yX2_passWatch cX2_passWatch 2 none, Cond.methodLink RX2 95 Lib.Math.max.name, Cond.static Lib.Math.max.name, Cond.code Lib.Math.max.name Lib.Math.max.code 2 (some .int), Cond.methodLink RX2 101 yX3_setWater, Cond.instanceMethod yX3_setWater, Cond.selects RX3 yX3_setWater yX3_setWater, Cond.code yX3_setWater cX3_setWater 2 none, Cond.methodLink RX2 105 yX3_sink, Cond.instanceMethod yX3_sink, Cond.selects RX3 yX3_sink yX3_sink, Cond.code yX3_sink cX3_sink 1 none, Cond.methodLink RX2 108 yX2_letWormsEat, Cond.instanceMethod yX2_letWormsEat, Cond.selects RX2 yX2_letWormsEat yX2_letWormsEat, Cond.code yX2_letWormsEat cX2_letWormsEat 4 none, Cond.methodLink RX2 121 yX3_addWorm]
def wsX8_floats_r5 : List Cond := [Cond.instanceMethod yX3_addWorm, Cond.selects RX3 yX3_addWorm yX3_addWorm, Cond.code yX3_addWorm cX3_addWorm 2 none, Cond.methodLink RX2 81 yX3_bringTo, Cond.instanceMethod yX3_bringTo, Cond.selects RX3 yX3_bringTo yX3_bringTo, Cond.code yX3_bringTo cX3_bringTo 4 none, Cond.methodLink RX2 112 yX2_letComeDown, Cond.instanceMethod yX2_letComeDown, Cond.selects RX2 yX2_letComeDown yX2_letComeDown, Cond.code yX2_letComeDown cX2_letComeDown 3 none]
def wsX8_floats : List Cond := .code yX8_floats cX8_floats 1 (some .int) :: ((wsX8_floats_r1 ++ (wsX8_floats_r2 ++ (wsX8_floats_r3 ++ (wsX8_floats_r4 ++ wsX8_floats_r5)))) ++ wsX80 ++ wsX30 ++ wsX20)
def wsX8_harm_r1 : List Cond := [Cond.fieldLink RX8 19 "ShipFromItself" "hull" "LShipFromItself$Hull;", Cond.fieldLink RX8 26 "ShipFromItself" "now" "LShipFromItself$Load;", Cond.fieldLink RX8 30 "ShipFromItself" "trial" "LShipFromItself$Load;", Cond.methodLink RX8 96 yX2_isPlace, Cond.instanceMethod yX2_isPlace, Cond.selects RX2 yX2_isPlace yX2_isPlace, Cond.initialized RX2, Cond.code yX2_isPlace cX2_isPlace 2 (some .boolean), Cond.fieldLink RX2 24 "ShipFromItself$Hull" "places" "I", Cond.methodLink RX8 169 yX3_isOpen, Cond.instanceMethod yX3_isOpen, Cond.selects RX3 yX3_isOpen yX3_isOpen, Cond.initialized RX3, Cond.code yX3_isOpen cX3_isOpen 2 (some .boolean), Cond.fieldLink RX3 21 "ShipFromItself$Load" "timberIn" "[I", Cond.methodLink RX8 163 yX3_copyFrom, Cond.instanceMethod yX3_copyFrom, Cond.selects RX3 yX3_copyFrom yX3_copyFrom, Cond.code yX3_copyFrom cX3_copyFrom 2 none, Cond.fieldLink RX3 9 "ShipFromItself$Load" "where" "[I", Cond.methodLink RX3 53 arraycopyName, Cond.native arraycopyName, Cond.static arraycopyName, Cond.initialized "java/lang/System"]
def wsX8_harm_r2 : List Cond := [Cond.fieldLink RX3 15 "ShipFromItself$Load" "length" "[I", Cond.fieldLink RX3 18 "ShipFromItself$Load" "worms" "[I", Cond.fieldLink RX3 24 "ShipFromItself$Load" "water" "I", Cond.fieldLink RX3 28 "ShipFromItself$Load" "sunk" "Z", Cond.methodLink RX8 109 yX3_timberIn, Cond.instanceMethod yX3_timberIn, Cond.selects RX3 yX3_timberIn yX3_timberIn, Cond.code yX3_timberIn cX3_timberIn 2 (some .int), Cond.methodLink RX8 134 yX3_bringTo, Cond.instanceMethod yX3_bringTo, Cond.selects RX3 yX3_bringTo yX3_bringTo, Cond.code yX3_bringTo cX3_bringTo 4 none, Cond.methodLink RX8 172 yX2_letComeDown, Cond.instanceMethod yX2_letComeDown, Cond.selects RX2 yX2_letComeDown yX2_letComeDown, Cond.code yX2_letComeDown cX2_letComeDown 3 none, Cond.methodLink RX2 54 yX3_isOpen, Cond.methodLink RX2 124 yX2_hangsInAir, Cond.instanceMethod yX2_hangsInAir, Cond.selects RX2 yX2_hangsInAir yX2_hangsInAir, Cond.code yX2_hangsInAir cX2_hangsInAir 3 (some .boolean), Cond.methodLink RX2 61 yX2_restsOn, Cond.instanceMethod yX2_restsOn, Cond.selects RX2 yX2_restsOn yX2_restsOn]
def wsX8_harm_r3 : List Cond := [Cond.code yX2_restsOn cX2_restsOn 2 (some .int), Cond.fieldLink RX2 18 "ShipFromItself$Hull" "restsOn" "[I", Cond.methodLink RX2 115 yX3_timberIn, Cond.methodLink RX2 81 yX3_bringTo, Cond.methodLink RX8 159 yX2_leakOf, Cond.instanceMethod yX2_leakOf, Cond.selects RX2 yX2_leakOf yX2_leakOf, Cond.code yX2_leakOf cX2_leakOf 4 (some .int), Cond.methodLink RX2 59 yX2_letsIn, Cond.instanceMethod yX2_letsIn, Cond.selects RX2 yX2_letsIn yX2_letsIn, Cond.code yX2_letsIn cX2_letsIn 2 (some .int), Cond.fieldLink RX2 15 "ShipFromItself$Hull" "letsIn" "[I"]
def wsX8_harm : List Cond := .code yX8_harm cX8_harm 2 (some .int) :: ((wsX8_harm_r1 ++ (wsX8_harm_r2 ++ wsX8_harm_r3)) ++ wsX80 ++ wsX20 ++ wsX30)
def wsX8_may_r1 : List Cond := [Cond.fieldLink RX8 19 "ShipFromItself" "hull" "LShipFromItself$Hull;", Cond.fieldLink RX8 26 "ShipFromItself" "now" "LShipFromItself$Load;", Cond.methodLink RX8 96 yX2_isPlace, Cond.instanceMethod yX2_isPlace, Cond.selects RX2 yX2_isPlace yX2_isPlace, Cond.initialized RX2, Cond.code yX2_isPlace cX2_isPlace 2 (some .boolean), Cond.fieldLink RX2 24 "ShipFromItself$Hull" "places" "I", Cond.methodLink RX8 122 yX3_isSunk, Cond.instanceMethod yX3_isSunk, Cond.selects RX3 yX3_isSunk yX3_isSunk, Cond.initialized RX3, Cond.code yX3_isSunk cX3_isSunk 1 (some .boolean), Cond.fieldLink RX3 28 "ShipFromItself$Load" "sunk" "Z", Cond.methodLink RX8 146 yX2_mayBeMoved, Cond.instanceMethod yX2_mayBeMoved, Cond.selects RX2 yX2_mayBeMoved yX2_mayBeMoved, Cond.code yX2_mayBeMoved cX2_mayBeMoved 5 (some .boolean), Cond.methodLink RX2 70 yX3_whereIs, Cond.instanceMethod yX3_whereIs, Cond.selects RX3 yX3_whereIs yX3_whereIs, Cond.code yX3_whereIs cX3_whereIs 2 (some .int), Cond.fieldLink RX3 9 "ShipFromItself$Load" "where" "[I", Cond.methodLink RX2 73 yX2_fits]
def wsX8_may_r2 : List Cond := [Cond.instanceMethod yX2_fits, Cond.selects RX2 yX2_fits yX2_fits, Cond.code yX2_fits cX2_fits 5 (some .boolean), Cond.methodLink RX2 61 yX2_restsOn, Cond.instanceMethod yX2_restsOn, Cond.selects RX2 yX2_restsOn yX2_restsOn, Cond.code yX2_restsOn cX2_restsOn 2 (some .int), Cond.fieldLink RX2 18 "ShipFromItself$Hull" "restsOn" "[I", Cond.methodLink RX2 63 yX2_isPlace, Cond.methodLink RX2 54 yX3_isOpen, Cond.instanceMethod yX3_isOpen, Cond.selects RX3 yX3_isOpen yX3_isOpen, Cond.code yX3_isOpen cX3_isOpen 2 (some .boolean), Cond.fieldLink RX3 21 "ShipFromItself$Load" "timberIn" "[I", Cond.methodLink RX2 66 yX3_lengthOf, Cond.instanceMethod yX3_lengthOf, Cond.selects RX3 yX3_lengthOf yX3_lengthOf, Cond.code yX3_lengthOf cX3_lengthOf 2 (some .int), Cond.fieldLink RX3 15 "ShipFromItself$Load" "length" "[I", Cond.methodLink RX2 69 yX2_lengthOf, Cond.instanceMethod yX2_lengthOf, Cond.selects RX2 yX2_lengthOf yX2_lengthOf, Cond.code yX2_lengthOf cX2_lengthOf 2 (some .int), Cond.fieldLink RX2 9 "ShipFromItself$Hull" "length" "[I"]
def wsX8_may_r3 : List Cond := [Cond.methodLink RX2 77 yX2_mayBeTakenFrom, Cond.instanceMethod yX2_mayBeTakenFrom, Cond.selects RX2 yX2_mayBeTakenFrom yX2_mayBeTakenFrom, Cond.code yX2_mayBeTakenFrom cX2_mayBeTakenFrom 4 (some .boolean)]
def wsX8_may : List Cond := .code yX8_may cX8_may 3 (some .int) :: ((wsX8_may_r1 ++ (wsX8_may_r2 ++ wsX8_may_r3)) ++ wsX80 ++ wsX20 ++ wsX30)
def wsX8_refusalOfBest : List Cond := .code yX8_refusalOfBest cX8_refusalOfBest 2 (some .int) :: ([.fieldLink RX8 26 "ShipFromItself" "now" "LShipFromItself$Load;", .methodLink RX8 122 yX3_isSunk, .instanceMethod yX3_isSunk, .selects RX3 yX3_isSunk yX3_isSunk, .initialized RX3, .code yX3_isSunk cX3_isSunk 1 (some .boolean), .fieldLink RX3 28 "ShipFromItself$Load" "sunk" "Z"] ++ wsX80 ++ wsX30)
def wsX8_best_r1 : List Cond := [Cond.fieldLink RX8 59 "ShipFromItself" "search" "LShipFromItself$Search;", Cond.fieldLink RX8 26 "ShipFromItself" "now" "LShipFromItself$Load;", Cond.methodLink RX8 175 yX8_refusalOfBest, Cond.instanceMethod yX8_refusalOfBest, Cond.selects RX8 yX8_refusalOfBest yX8_refusalOfBest, Cond.initialized RX8, Cond.code yX8_refusalOfBest cX8_refusalOfBest 2 (some .int), Cond.methodLink RX8 122 yX3_isSunk, Cond.instanceMethod yX3_isSunk, Cond.selects RX3 yX3_isSunk yX3_isSunk, Cond.initialized RX3, Cond.code yX3_isSunk cX3_isSunk 1 (some .boolean), Cond.fieldLink RX3 28 "ShipFromItself$Load" "sunk" "Z", Cond.methodLink RX8 178 yX5_leastLeak, Cond.instanceMethod yX5_leastLeak, Cond.selects RX5 yX5_leastLeak yX5_leastLeak, Cond.initialized RX5, Cond.code yX5_leastLeak cX5_leastLeak 7 (some .int), Cond.fieldLink RX5 19 "ShipFromItself$Search" "hull" "LShipFromItself$Hull;", Cond.fieldLink RX5 15 "ShipFromItself$Search" "foundMoves" "I", Cond.fieldLink RX5 32 "ShipFromItself$Search" "rows" "LShipFromItself$Rows;", Cond.constant RX5 46 (1000000), Cond.fieldLink RX5 9 "ShipFromItself$Search" "found" "[I", Cond.methodLink RX5 36 yX2_leakOf]
def wsX8_best_r2 : List Cond := [Cond.instanceMethod yX2_leakOf, Cond.selects RX2 yX2_leakOf yX2_leakOf, Cond.initialized RX2, Cond.code yX2_leakOf cX2_leakOf 4 (some .int), Cond.fieldLink RX2 24 "ShipFromItself$Hull" "places" "I", Cond.methodLink RX2 54 yX3_isOpen, Cond.instanceMethod yX3_isOpen, Cond.selects RX3 yX3_isOpen yX3_isOpen, Cond.code yX3_isOpen cX3_isOpen 2 (some .boolean), Cond.fieldLink RX3 21 "ShipFromItself$Load" "timberIn" "[I", Cond.methodLink RX2 59 yX2_letsIn, Cond.instanceMethod yX2_letsIn, Cond.selects RX2 yX2_letsIn yX2_letsIn, Cond.code yX2_letsIn cX2_letsIn 2 (some .int), Cond.fieldLink RX2 15 "ShipFromItself$Hull" "letsIn" "[I", Cond.methodLink RX5 42 yX4_begin, Cond.instanceMethod yX4_begin, Cond.selects RX4 yX4_begin yX4_begin, Cond.initialized RX4, Cond.code yX4_begin cX4_begin 3 none, Cond.fieldLink RX4 11 "ShipFromItself$Rows" "steps" "[LShipFromItself$Load;", Cond.methodLink RX4 38 Lib.Math.min.name, Cond.static Lib.Math.min.name, Cond.initialized "java/lang/Math"]
def wsX8_best_r3 : List Cond := [Cond.code Lib.Math.min.name Lib.Math.min.code 2 (some .int), Cond.methodLink RX4 44 Lib.Math.max.name, Cond.static Lib.Math.max.name, Cond.code Lib.Math.max.name Lib.Math.max.code 2 (some .int), Cond.fieldLink RX4 21 "ShipFromItself$Rows" "moves" "I", Cond.fieldLink RX4 25 "ShipFromItself$Rows" "begun" "Z", Cond.methodLink RX4 34 yX3_copyFrom, Cond.instanceMethod yX3_copyFrom, Cond.selects RX3 yX3_copyFrom yX3_copyFrom, Cond.code yX3_copyFrom cX3_copyFrom 2 none, Cond.fieldLink RX3 9 "ShipFromItself$Load" "where" "[I", Cond.methodLink RX3 53 arraycopyName, Cond.native arraycopyName, Cond.static arraycopyName, Cond.initialized "java/lang/System", Cond.fieldLink RX3 15 "ShipFromItself$Load" "length" "[I", Cond.fieldLink RX3 18 "ShipFromItself$Load" "worms" "[I", Cond.fieldLink RX3 24 "ShipFromItself$Load" "water" "I", Cond.methodLink RX5 47 yX4_next, Cond.instanceMethod yX4_next, Cond.selects RX4 yX4_next yX4_next, Cond.code yX4_next cX4_next 4 (some .boolean), Cond.fieldLink RX4 17 "ShipFromItself$Rows" "row" "[I", Cond.constant RX4 53 (1000000)]
def wsX8_best_r4 : List Cond := [Cond.methodLink RX4 54 yX4_makeNextMove, Cond.instanceMethod yX4_makeNextMove, Cond.selects RX4 yX4_makeNextMove yX4_makeNextMove, Cond.code yX4_makeNextMove cX4_makeNextMove 5 (some .boolean), Cond.fieldLink RX4 29 "ShipFromItself$Rows" "hull" "LShipFromItself$Hull;", Cond.methodLink RX4 58 yX2_mayBeMoved, Cond.instanceMethod yX2_mayBeMoved, Cond.selects RX2 yX2_mayBeMoved yX2_mayBeMoved, Cond.code yX2_mayBeMoved cX2_mayBeMoved 5 (some .boolean), Cond.methodLink RX2 70 yX3_whereIs, Cond.instanceMethod yX3_whereIs, Cond.selects RX3 yX3_whereIs yX3_whereIs, Cond.code yX3_whereIs cX3_whereIs 2 (some .int), Cond.methodLink RX2 73 yX2_fits, Cond.instanceMethod yX2_fits, Cond.selects RX2 yX2_fits yX2_fits, Cond.code yX2_fits cX2_fits 5 (some .boolean), Cond.methodLink RX2 61 yX2_restsOn, Cond.instanceMethod yX2_restsOn, Cond.selects RX2 yX2_restsOn yX2_restsOn, Cond.code yX2_restsOn cX2_restsOn 2 (some .int), Cond.fieldLink RX2 18 "ShipFromItself$Hull" "restsOn" "[I", Cond.methodLink RX2 63 yX2_isPlace, Cond.instanceMethod yX2_isPlace]
def wsX8_best_r5 : List Cond := [Cond.selects RX2 yX2_isPlace yX2_isPlace, Cond.code yX2_isPlace cX2_isPlace 2 (some .boolean), Cond.methodLink RX2 66 yX3_lengthOf, Cond.instanceMethod yX3_lengthOf, Cond.selects RX3 yX3_lengthOf yX3_lengthOf, Cond.code yX3_lengthOf cX3_lengthOf 2 (some .int), Cond.methodLink RX2 69 yX2_lengthOf, Cond.instanceMethod yX2_lengthOf, Cond.selects RX2 yX2_lengthOf yX2_lengthOf, Cond.code yX2_lengthOf cX2_lengthOf 2 (some .int), Cond.fieldLink RX2 9 "ShipFromItself$Hull" "length" "[I", Cond.methodLink RX2 77 yX2_mayBeTakenFrom, Cond.instanceMethod yX2_mayBeTakenFrom, Cond.selects RX2 yX2_mayBeTakenFrom yX2_mayBeTakenFrom, Cond.code yX2_mayBeTakenFrom cX2_mayBeTakenFrom 4 (some .boolean), Cond.methodLink RX4 64 yX2_bringInto, Cond.instanceMethod yX2_bringInto, Cond.selects RX2 yX2_bringInto yX2_bringInto, Cond.code yX2_bringInto cX2_bringInto 4 none, Cond.methodLink RX2 81 yX3_bringTo, Cond.instanceMethod yX3_bringTo, Cond.selects RX3 yX3_bringTo yX3_bringTo, Cond.code yX3_bringTo cX3_bringTo 4 none, Cond.methodLink RX2 85 yX3_cutTo]
def wsX8_best_r6 : List Cond := [Cond.instanceMethod yX3_cutTo, Cond.selects RX3 yX3_cutTo yX3_cutTo, Cond.code yX3_cutTo cX3_cutTo 3 none, Cond.methodLink RX5 51 yX4_end, Cond.instanceMethod yX4_end, Cond.selects RX4 yX4_end yX4_end, Cond.code yX4_end cX4_end 1 (some (.object "ShipFromItself$Load")), Cond.methodLink RX5 55 yX4_copyTo, Cond.instanceMethod yX4_copyTo, Cond.selects RX4 yX4_copyTo yX4_copyTo, Cond.code yX4_copyTo cX4_copyTo 2 none, Cond.methodLink RX4 47 arraycopyName]
def wsX8_best : List Cond := .code yX8_best cX8_best 3 (some .int) :: ((wsX8_best_r1 ++ (wsX8_best_r2 ++ (wsX8_best_r3 ++ (wsX8_best_r4 ++ (wsX8_best_r5 ++ wsX8_best_r6))))) ++ wsX80 ++ wsX30 ++ wsX50 ++ wsX20 ++ wsX40)
def wsX8_bestAt_r1 : List Cond := [Cond.fieldLink RX8 59 "ShipFromItself" "search" "LShipFromItself$Search;", Cond.fieldLink RX8 26 "ShipFromItself" "now" "LShipFromItself$Load;", Cond.methodLink RX8 175 yX8_refusalOfBest, Cond.instanceMethod yX8_refusalOfBest, Cond.selects RX8 yX8_refusalOfBest yX8_refusalOfBest, Cond.initialized RX8, Cond.code yX8_refusalOfBest cX8_refusalOfBest 2 (some .int), Cond.methodLink RX8 122 yX3_isSunk, Cond.instanceMethod yX3_isSunk, Cond.selects RX3 yX3_isSunk yX3_isSunk, Cond.initialized RX3, Cond.code yX3_isSunk cX3_isSunk 1 (some .boolean), Cond.fieldLink RX3 28 "ShipFromItself$Load" "sunk" "Z", Cond.methodLink RX8 178 yX5_leastLeak, Cond.instanceMethod yX5_leastLeak, Cond.selects RX5 yX5_leastLeak yX5_leastLeak, Cond.initialized RX5, Cond.code yX5_leastLeak cX5_leastLeak 7 (some .int), Cond.fieldLink RX5 19 "ShipFromItself$Search" "hull" "LShipFromItself$Hull;", Cond.fieldLink RX5 15 "ShipFromItself$Search" "foundMoves" "I", Cond.fieldLink RX5 32 "ShipFromItself$Search" "rows" "LShipFromItself$Rows;", Cond.constant RX5 46 (1000000), Cond.fieldLink RX5 9 "ShipFromItself$Search" "found" "[I", Cond.methodLink RX5 36 yX2_leakOf]
def wsX8_bestAt_r2 : List Cond := [Cond.instanceMethod yX2_leakOf, Cond.selects RX2 yX2_leakOf yX2_leakOf, Cond.initialized RX2, Cond.code yX2_leakOf cX2_leakOf 4 (some .int), Cond.fieldLink RX2 24 "ShipFromItself$Hull" "places" "I", Cond.methodLink RX2 54 yX3_isOpen, Cond.instanceMethod yX3_isOpen, Cond.selects RX3 yX3_isOpen yX3_isOpen, Cond.code yX3_isOpen cX3_isOpen 2 (some .boolean), Cond.fieldLink RX3 21 "ShipFromItself$Load" "timberIn" "[I", Cond.methodLink RX2 59 yX2_letsIn, Cond.instanceMethod yX2_letsIn, Cond.selects RX2 yX2_letsIn yX2_letsIn, Cond.code yX2_letsIn cX2_letsIn 2 (some .int), Cond.fieldLink RX2 15 "ShipFromItself$Hull" "letsIn" "[I", Cond.methodLink RX5 42 yX4_begin, Cond.instanceMethod yX4_begin, Cond.selects RX4 yX4_begin yX4_begin, Cond.initialized RX4, Cond.code yX4_begin cX4_begin 3 none, Cond.fieldLink RX4 11 "ShipFromItself$Rows" "steps" "[LShipFromItself$Load;", Cond.methodLink RX4 38 Lib.Math.min.name, Cond.static Lib.Math.min.name, Cond.initialized "java/lang/Math"]
def wsX8_bestAt_r3 : List Cond := [Cond.code Lib.Math.min.name Lib.Math.min.code 2 (some .int), Cond.methodLink RX4 44 Lib.Math.max.name, Cond.static Lib.Math.max.name, Cond.code Lib.Math.max.name Lib.Math.max.code 2 (some .int), Cond.fieldLink RX4 21 "ShipFromItself$Rows" "moves" "I", Cond.fieldLink RX4 25 "ShipFromItself$Rows" "begun" "Z", Cond.methodLink RX4 34 yX3_copyFrom, Cond.instanceMethod yX3_copyFrom, Cond.selects RX3 yX3_copyFrom yX3_copyFrom, Cond.code yX3_copyFrom cX3_copyFrom 2 none, Cond.fieldLink RX3 9 "ShipFromItself$Load" "where" "[I", Cond.methodLink RX3 53 arraycopyName, Cond.native arraycopyName, Cond.static arraycopyName, Cond.initialized "java/lang/System", Cond.fieldLink RX3 15 "ShipFromItself$Load" "length" "[I", Cond.fieldLink RX3 18 "ShipFromItself$Load" "worms" "[I", Cond.fieldLink RX3 24 "ShipFromItself$Load" "water" "I", Cond.methodLink RX5 47 yX4_next, Cond.instanceMethod yX4_next, Cond.selects RX4 yX4_next yX4_next, Cond.code yX4_next cX4_next 4 (some .boolean), Cond.fieldLink RX4 17 "ShipFromItself$Rows" "row" "[I", Cond.constant RX4 53 (1000000)]
def wsX8_bestAt_r4 : List Cond := [Cond.methodLink RX4 54 yX4_makeNextMove, Cond.instanceMethod yX4_makeNextMove, Cond.selects RX4 yX4_makeNextMove yX4_makeNextMove, Cond.code yX4_makeNextMove cX4_makeNextMove 5 (some .boolean), Cond.fieldLink RX4 29 "ShipFromItself$Rows" "hull" "LShipFromItself$Hull;", Cond.methodLink RX4 58 yX2_mayBeMoved, Cond.instanceMethod yX2_mayBeMoved, Cond.selects RX2 yX2_mayBeMoved yX2_mayBeMoved, Cond.code yX2_mayBeMoved cX2_mayBeMoved 5 (some .boolean), Cond.methodLink RX2 70 yX3_whereIs, Cond.instanceMethod yX3_whereIs, Cond.selects RX3 yX3_whereIs yX3_whereIs, Cond.code yX3_whereIs cX3_whereIs 2 (some .int), Cond.methodLink RX2 73 yX2_fits, Cond.instanceMethod yX2_fits, Cond.selects RX2 yX2_fits yX2_fits, Cond.code yX2_fits cX2_fits 5 (some .boolean), Cond.methodLink RX2 61 yX2_restsOn, Cond.instanceMethod yX2_restsOn, Cond.selects RX2 yX2_restsOn yX2_restsOn, Cond.code yX2_restsOn cX2_restsOn 2 (some .int), Cond.fieldLink RX2 18 "ShipFromItself$Hull" "restsOn" "[I", Cond.methodLink RX2 63 yX2_isPlace, Cond.instanceMethod yX2_isPlace]
def wsX8_bestAt_r5 : List Cond := [Cond.selects RX2 yX2_isPlace yX2_isPlace, Cond.code yX2_isPlace cX2_isPlace 2 (some .boolean), Cond.methodLink RX2 66 yX3_lengthOf, Cond.instanceMethod yX3_lengthOf, Cond.selects RX3 yX3_lengthOf yX3_lengthOf, Cond.code yX3_lengthOf cX3_lengthOf 2 (some .int), Cond.methodLink RX2 69 yX2_lengthOf, Cond.instanceMethod yX2_lengthOf, Cond.selects RX2 yX2_lengthOf yX2_lengthOf, Cond.code yX2_lengthOf cX2_lengthOf 2 (some .int), Cond.fieldLink RX2 9 "ShipFromItself$Hull" "length" "[I", Cond.methodLink RX2 77 yX2_mayBeTakenFrom, Cond.instanceMethod yX2_mayBeTakenFrom, Cond.selects RX2 yX2_mayBeTakenFrom yX2_mayBeTakenFrom, Cond.code yX2_mayBeTakenFrom cX2_mayBeTakenFrom 4 (some .boolean), Cond.methodLink RX4 64 yX2_bringInto, Cond.instanceMethod yX2_bringInto, Cond.selects RX2 yX2_bringInto yX2_bringInto, Cond.code yX2_bringInto cX2_bringInto 4 none, Cond.methodLink RX2 81 yX3_bringTo, Cond.instanceMethod yX3_bringTo, Cond.selects RX3 yX3_bringTo yX3_bringTo, Cond.code yX3_bringTo cX3_bringTo 4 none, Cond.methodLink RX2 85 yX3_cutTo]
def wsX8_bestAt_r6 : List Cond := [Cond.instanceMethod yX3_cutTo, Cond.selects RX3 yX3_cutTo yX3_cutTo, Cond.code yX3_cutTo cX3_cutTo 3 none, Cond.methodLink RX5 51 yX4_end, Cond.instanceMethod yX4_end, Cond.selects RX4 yX4_end yX4_end, Cond.code yX4_end cX4_end 1 (some (.object "ShipFromItself$Load")), Cond.methodLink RX5 55 yX4_copyTo, Cond.instanceMethod yX4_copyTo, Cond.selects RX4 yX4_copyTo yX4_copyTo, Cond.code yX4_copyTo cX4_copyTo 2 none, Cond.methodLink RX4 47 arraycopyName, Cond.methodLink RX8 182 yX5_foundMove, Cond.instanceMethod yX5_foundMove, Cond.selects RX5 yX5_foundMove yX5_foundMove, Cond.code yX5_foundMove cX5_foundMove 2 (some .int)]
def wsX8_bestAt : List Cond := .code yX8_bestAt cX8_bestAt 4 (some .int) :: ((wsX8_bestAt_r1 ++ (wsX8_bestAt_r2 ++ (wsX8_bestAt_r3 ++ (wsX8_bestAt_r4 ++ (wsX8_bestAt_r5 ++ wsX8_bestAt_r6))))) ++ wsX80 ++ wsX30 ++ wsX50 ++ wsX20 ++ wsX40)
def wsX8_refusalOfPort : List Cond := .code yX8_refusalOfPort cX8_refusalOfPort 2 (some .int) :: ([.fieldLink RX8 26 "ShipFromItself" "now" "LShipFromItself$Load;", .methodLink RX8 122 yX3_isSunk, .instanceMethod yX3_isSunk, .selects RX3 yX3_isSunk yX3_isSunk, .initialized RX3, .code yX3_isSunk cX3_isSunk 1 (some .boolean), .fieldLink RX3 28 "ShipFromItself$Load" "sunk" "Z"] ++ wsX80 ++ wsX30)
def wsX8_port_r1 : List Cond := [Cond.fieldLink RX8 59 "ShipFromItself" "search" "LShipFromItself$Search;", Cond.fieldLink RX8 26 "ShipFromItself" "now" "LShipFromItself$Load;", Cond.methodLink RX8 185 yX8_refusalOfPort, Cond.instanceMethod yX8_refusalOfPort, Cond.selects RX8 yX8_refusalOfPort yX8_refusalOfPort, Cond.initialized RX8, Cond.code yX8_refusalOfPort cX8_refusalOfPort 2 (some .int), Cond.methodLink RX8 122 yX3_isSunk, Cond.instanceMethod yX3_isSunk, Cond.selects RX3 yX3_isSunk yX3_isSunk, Cond.initialized RX3, Cond.code yX3_isSunk cX3_isSunk 1 (some .boolean), Cond.fieldLink RX3 28 "ShipFromItself$Load" "sunk" "Z", Cond.methodLink RX8 188 yX5_fewestMoves, Cond.instanceMethod yX5_fewestMoves, Cond.selects RX5 yX5_fewestMoves yX5_fewestMoves, Cond.initialized RX5, Cond.code yX5_fewestMoves cX5_fewestMoves 5 (some .int), Cond.fieldLink RX5 32 "ShipFromItself$Search" "rows" "LShipFromItself$Rows;", Cond.constant RX5 46 (1000000), Cond.fieldLink RX5 23 "ShipFromItself$Search" "trial" "LShipFromItself$Load;", Cond.fieldLink RX5 19 "ShipFromItself$Search" "hull" "LShipFromItself$Hull;", Cond.fieldLink RX5 15 "ShipFromItself$Search" "foundMoves" "I", Cond.fieldLink RX5 9 "ShipFromItself$Search" "found" "[I"]
def wsX8_port_r2 : List Cond := [Cond.methodLink RX5 42 yX4_begin, Cond.instanceMethod yX4_begin, Cond.selects RX4 yX4_begin yX4_begin, Cond.initialized RX4, Cond.code yX4_begin cX4_begin 3 none, Cond.fieldLink RX4 11 "ShipFromItself$Rows" "steps" "[LShipFromItself$Load;", Cond.methodLink RX4 38 Lib.Math.min.name, Cond.static Lib.Math.min.name, Cond.initialized "java/lang/Math", Cond.code Lib.Math.min.name Lib.Math.min.code 2 (some .int), Cond.methodLink RX4 44 Lib.Math.max.name, Cond.static Lib.Math.max.name, Cond.code Lib.Math.max.name Lib.Math.max.code 2 (some .int), Cond.fieldLink RX4 21 "ShipFromItself$Rows" "moves" "I", Cond.fieldLink RX4 25 "ShipFromItself$Rows" "begun" "Z", Cond.methodLink RX4 34 yX3_copyFrom, Cond.instanceMethod yX3_copyFrom, Cond.selects RX3 yX3_copyFrom yX3_copyFrom, Cond.code yX3_copyFrom cX3_copyFrom 2 none, Cond.fieldLink RX3 9 "ShipFromItself$Load" "where" "[I", Cond.methodLink RX3 53 arraycopyName, Cond.native arraycopyName, Cond.static arraycopyName, Cond.initialized "java/lang/System"]
def wsX8_port_r3 : List Cond := [Cond.fieldLink RX3 15 "ShipFromItself$Load" "length" "[I", Cond.fieldLink RX3 18 "ShipFromItself$Load" "worms" "[I", Cond.fieldLink RX3 21 "ShipFromItself$Load" "timberIn" "[I", Cond.fieldLink RX3 24 "ShipFromItself$Load" "water" "I", Cond.methodLink RX5 47 yX4_next, Cond.instanceMethod yX4_next, Cond.selects RX4 yX4_next yX4_next, Cond.code yX4_next cX4_next 4 (some .boolean), Cond.fieldLink RX4 17 "ShipFromItself$Rows" "row" "[I", Cond.constant RX4 53 (1000000), Cond.methodLink RX4 54 yX4_makeNextMove, Cond.instanceMethod yX4_makeNextMove, Cond.selects RX4 yX4_makeNextMove yX4_makeNextMove, Cond.code yX4_makeNextMove cX4_makeNextMove 5 (some .boolean), Cond.fieldLink RX4 29 "ShipFromItself$Rows" "hull" "LShipFromItself$Hull;", Cond.methodLink RX4 58 yX2_mayBeMoved, Cond.instanceMethod yX2_mayBeMoved, Cond.selects RX2 yX2_mayBeMoved yX2_mayBeMoved, Cond.initialized RX2, Cond.code yX2_mayBeMoved cX2_mayBeMoved 5 (some .boolean), Cond.methodLink RX2 70 yX3_whereIs, Cond.instanceMethod yX3_whereIs, Cond.selects RX3 yX3_whereIs yX3_whereIs, Cond.code yX3_whereIs cX3_whereIs 2 (some .int)]
def wsX8_port_r4 : List Cond := [Cond.methodLink RX2 73 yX2_fits, Cond.instanceMethod yX2_fits, Cond.selects RX2 yX2_fits yX2_fits, Cond.code yX2_fits cX2_fits 5 (some .boolean), Cond.methodLink RX2 61 yX2_restsOn, Cond.instanceMethod yX2_restsOn, Cond.selects RX2 yX2_restsOn yX2_restsOn, Cond.code yX2_restsOn cX2_restsOn 2 (some .int), Cond.fieldLink RX2 24 "ShipFromItself$Hull" "places" "I", Cond.fieldLink RX2 18 "ShipFromItself$Hull" "restsOn" "[I", Cond.methodLink RX2 63 yX2_isPlace, Cond.instanceMethod yX2_isPlace, Cond.selects RX2 yX2_isPlace yX2_isPlace, Cond.code yX2_isPlace cX2_isPlace 2 (some .boolean), Cond.methodLink RX2 54 yX3_isOpen, Cond.instanceMethod yX3_isOpen, Cond.selects RX3 yX3_isOpen yX3_isOpen, Cond.code yX3_isOpen cX3_isOpen 2 (some .boolean), Cond.methodLink RX2 66 yX3_lengthOf, Cond.instanceMethod yX3_lengthOf, Cond.selects RX3 yX3_lengthOf yX3_lengthOf, Cond.code yX3_lengthOf cX3_lengthOf 2 (some .int), Cond.methodLink RX2 69 yX2_lengthOf, Cond.instanceMethod yX2_lengthOf]
def wsX8_port_r5 : List Cond := [Cond.selects RX2 yX2_lengthOf yX2_lengthOf, Cond.code yX2_lengthOf cX2_lengthOf 2 (some .int), Cond.fieldLink RX2 9 "ShipFromItself$Hull" "length" "[I", Cond.methodLink RX2 77 yX2_mayBeTakenFrom, Cond.instanceMethod yX2_mayBeTakenFrom, Cond.selects RX2 yX2_mayBeTakenFrom yX2_mayBeTakenFrom, Cond.code yX2_mayBeTakenFrom cX2_mayBeTakenFrom 4 (some .boolean), Cond.methodLink RX4 64 yX2_bringInto, Cond.instanceMethod yX2_bringInto, Cond.selects RX2 yX2_bringInto yX2_bringInto, Cond.code yX2_bringInto cX2_bringInto 4 none, Cond.methodLink RX2 81 yX3_bringTo, Cond.instanceMethod yX3_bringTo, Cond.selects RX3 yX3_bringTo yX3_bringTo, Cond.code yX3_bringTo cX3_bringTo 4 none, Cond.methodLink RX2 85 yX3_cutTo, Cond.instanceMethod yX3_cutTo, Cond.selects RX3 yX3_cutTo yX3_cutTo, Cond.code yX3_cutTo cX3_cutTo 3 none, Cond.methodLink RX5 51 yX4_end, Cond.instanceMethod yX4_end, Cond.selects RX4 yX4_end yX4_end, Cond.code yX4_end cX4_end 1 (some (.object "ShipFromItself$Load")), Cond.methodLink RX5 59 yX3_copyFrom]
def wsX8_port_r6 : List Cond := [Cond.methodLink RX5 65 yX2_watchesAfloat, Cond.instanceMethod yX2_watchesAfloat, Cond.selects RX2 yX2_watchesAfloat yX2_watchesAfloat, Cond.code yX2_watchesAfloat cX2_watchesAfloat 3 (some .int), Cond.methodLink RX2 138 Lib.Math.min.name, Cond.methodLink RX2 127 yX3_isSunk, Cond.methodLink RX2 131 yX2_isAtRest, Cond.instanceMethod yX2_isAtRest, Cond.selects RX2 yX2_isAtRest yX2_isAtRest, Cond.code yX2_isAtRest cX2_isAtRest 3 (some .boolean), Cond.methodLink RX2 115 yX3_timberIn, Cond.instanceMethod yX3_timberIn, Cond.selects RX3 yX3_timberIn yX3_timberIn, Cond.code yX3_timberIn cX3_timberIn 2 (some .int), Cond.methodLink RX2 118 yX3_wormsIn, Cond.instanceMethod yX3_wormsIn, Cond.selects RX3 yX3_wormsIn yX3_wormsIn, Cond.code yX3_wormsIn cX3_wormsIn 2 (some .int), Cond.methodLink RX2 124 yX2_hangsInAir, Cond.instanceMethod yX2_hangsInAir, Cond.selects RX2 yX2_hangsInAir yX2_hangsInAir, Cond.code yX2_hangsInAir cX2_hangsInAir 3 (some .boolean), Cond.methodLink RX2 135 yX2_watchesAtRest, Cond.instanceMethod yX2_watchesAtRest]
def wsX8_port_r7 : List Cond := [Cond.selects RX2 yX2_watchesAtRest yX2_watchesAtRest, Cond.code yX2_watchesAtRest cX2_watchesAtRest 3 (some .int), Cond.fieldLink RX2 28 "ShipFromItself$Hull" "pumps" "I", Cond.fieldLink RX2 31 "ShipFromItself$Hull" "hold" "I", Cond.methodLink RX2 91 yX2_leakOf, Cond.instanceMethod yX2_leakOf, Cond.selects RX2 yX2_leakOf yX2_leakOf, Cond.code yX2_leakOf cX2_leakOf 4 (some .int), Cond.methodLink RX2 59 yX2_letsIn, Cond.instanceMethod yX2_letsIn, Cond.selects RX2 yX2_letsIn yX2_letsIn, Cond.code yX2_letsIn cX2_letsIn 2 (some .int), Cond.fieldLink RX2 15 "ShipFromItself$Hull" "letsIn" "[I", Cond.methodLink RX2 88 yX3_waterInside, Cond.instanceMethod yX3_waterInside, Cond.selects RX3 yX3_waterInside yX3_waterInside, Cond.code yX3_waterInside cX3_waterInside 1 (some .int), Cond.methodLink RX2 141 yX2_passWatch, Cond.instanceMethod yX2_passWatch, Cond.selects RX2 yX2_passWatch yX2_passWatch, Cond.code yX2_passWatch cX2_passWatch 2 none, Cond.methodLink RX2 95 Lib.Math.max.name, Cond.methodLink RX2 101 yX3_setWater, Cond.instanceMethod yX3_setWater]
def wsX8_port_r8 : List Cond := [Cond.selects RX3 yX3_setWater yX3_setWater, Cond.code yX3_setWater cX3_setWater 2 none, Cond.methodLink RX2 105 yX3_sink, Cond.instanceMethod yX3_sink, Cond.selects RX3 yX3_sink yX3_sink, Cond.code yX3_sink cX3_sink 1 none, Cond.methodLink RX2 108 yX2_letWormsEat, Cond.instanceMethod yX2_letWormsEat, Cond.selects RX2 yX2_letWormsEat yX2_letWormsEat, Cond.code yX2_letWormsEat cX2_letWormsEat 4 none, Cond.methodLink RX2 121 yX3_addWorm, Cond.instanceMethod yX3_addWorm, Cond.selects RX3 yX3_addWorm yX3_addWorm, Cond.code yX3_addWorm cX3_addWorm 2 none, Cond.methodLink RX2 112 yX2_letComeDown, Cond.instanceMethod yX2_letComeDown, Cond.selects RX2 yX2_letComeDown yX2_letComeDown, Cond.code yX2_letComeDown cX2_letComeDown 3 none, Cond.methodLink RX5 55 yX4_copyTo, Cond.instanceMethod yX4_copyTo, Cond.selects RX4 yX4_copyTo yX4_copyTo, Cond.code yX4_copyTo cX4_copyTo 2 none, Cond.methodLink RX4 47 arraycopyName]
def wsX8_port : List Cond := .code yX8_port cX8_port 3 (some .int) :: ((wsX8_port_r1 ++ (wsX8_port_r2 ++ (wsX8_port_r3 ++ (wsX8_port_r4 ++ (wsX8_port_r5 ++ (wsX8_port_r6 ++ (wsX8_port_r7 ++ wsX8_port_r8))))))) ++ wsX80 ++ wsX30 ++ wsX50 ++ wsX40 ++ wsX20)
def wsX8_portAt_r1 : List Cond := [Cond.fieldLink RX8 59 "ShipFromItself" "search" "LShipFromItself$Search;", Cond.fieldLink RX8 26 "ShipFromItself" "now" "LShipFromItself$Load;", Cond.methodLink RX8 185 yX8_refusalOfPort, Cond.instanceMethod yX8_refusalOfPort, Cond.selects RX8 yX8_refusalOfPort yX8_refusalOfPort, Cond.initialized RX8, Cond.code yX8_refusalOfPort cX8_refusalOfPort 2 (some .int), Cond.methodLink RX8 122 yX3_isSunk, Cond.instanceMethod yX3_isSunk, Cond.selects RX3 yX3_isSunk yX3_isSunk, Cond.initialized RX3, Cond.code yX3_isSunk cX3_isSunk 1 (some .boolean), Cond.fieldLink RX3 28 "ShipFromItself$Load" "sunk" "Z", Cond.methodLink RX8 188 yX5_fewestMoves, Cond.instanceMethod yX5_fewestMoves, Cond.selects RX5 yX5_fewestMoves yX5_fewestMoves, Cond.initialized RX5, Cond.code yX5_fewestMoves cX5_fewestMoves 5 (some .int), Cond.fieldLink RX5 32 "ShipFromItself$Search" "rows" "LShipFromItself$Rows;", Cond.constant RX5 46 (1000000), Cond.fieldLink RX5 23 "ShipFromItself$Search" "trial" "LShipFromItself$Load;", Cond.fieldLink RX5 19 "ShipFromItself$Search" "hull" "LShipFromItself$Hull;", Cond.fieldLink RX5 15 "ShipFromItself$Search" "foundMoves" "I", Cond.fieldLink RX5 9 "ShipFromItself$Search" "found" "[I"]
def wsX8_portAt_r2 : List Cond := [Cond.methodLink RX5 42 yX4_begin, Cond.instanceMethod yX4_begin, Cond.selects RX4 yX4_begin yX4_begin, Cond.initialized RX4, Cond.code yX4_begin cX4_begin 3 none, Cond.fieldLink RX4 11 "ShipFromItself$Rows" "steps" "[LShipFromItself$Load;", Cond.methodLink RX4 38 Lib.Math.min.name, Cond.static Lib.Math.min.name, Cond.initialized "java/lang/Math", Cond.code Lib.Math.min.name Lib.Math.min.code 2 (some .int), Cond.methodLink RX4 44 Lib.Math.max.name, Cond.static Lib.Math.max.name, Cond.code Lib.Math.max.name Lib.Math.max.code 2 (some .int), Cond.fieldLink RX4 21 "ShipFromItself$Rows" "moves" "I", Cond.fieldLink RX4 25 "ShipFromItself$Rows" "begun" "Z", Cond.methodLink RX4 34 yX3_copyFrom, Cond.instanceMethod yX3_copyFrom, Cond.selects RX3 yX3_copyFrom yX3_copyFrom, Cond.code yX3_copyFrom cX3_copyFrom 2 none, Cond.fieldLink RX3 9 "ShipFromItself$Load" "where" "[I", Cond.methodLink RX3 53 arraycopyName, Cond.native arraycopyName, Cond.static arraycopyName, Cond.initialized "java/lang/System"]
def wsX8_portAt_r3 : List Cond := [Cond.fieldLink RX3 15 "ShipFromItself$Load" "length" "[I", Cond.fieldLink RX3 18 "ShipFromItself$Load" "worms" "[I", Cond.fieldLink RX3 21 "ShipFromItself$Load" "timberIn" "[I", Cond.fieldLink RX3 24 "ShipFromItself$Load" "water" "I", Cond.methodLink RX5 47 yX4_next, Cond.instanceMethod yX4_next, Cond.selects RX4 yX4_next yX4_next, Cond.code yX4_next cX4_next 4 (some .boolean), Cond.fieldLink RX4 17 "ShipFromItself$Rows" "row" "[I", Cond.constant RX4 53 (1000000), Cond.methodLink RX4 54 yX4_makeNextMove, Cond.instanceMethod yX4_makeNextMove, Cond.selects RX4 yX4_makeNextMove yX4_makeNextMove, Cond.code yX4_makeNextMove cX4_makeNextMove 5 (some .boolean), Cond.fieldLink RX4 29 "ShipFromItself$Rows" "hull" "LShipFromItself$Hull;", Cond.methodLink RX4 58 yX2_mayBeMoved, Cond.instanceMethod yX2_mayBeMoved, Cond.selects RX2 yX2_mayBeMoved yX2_mayBeMoved, Cond.initialized RX2, Cond.code yX2_mayBeMoved cX2_mayBeMoved 5 (some .boolean), Cond.methodLink RX2 70 yX3_whereIs, Cond.instanceMethod yX3_whereIs, Cond.selects RX3 yX3_whereIs yX3_whereIs, Cond.code yX3_whereIs cX3_whereIs 2 (some .int)]
def wsX8_portAt_r4 : List Cond := [Cond.methodLink RX2 73 yX2_fits, Cond.instanceMethod yX2_fits, Cond.selects RX2 yX2_fits yX2_fits, Cond.code yX2_fits cX2_fits 5 (some .boolean), Cond.methodLink RX2 61 yX2_restsOn, Cond.instanceMethod yX2_restsOn, Cond.selects RX2 yX2_restsOn yX2_restsOn, Cond.code yX2_restsOn cX2_restsOn 2 (some .int), Cond.fieldLink RX2 24 "ShipFromItself$Hull" "places" "I", Cond.fieldLink RX2 18 "ShipFromItself$Hull" "restsOn" "[I", Cond.methodLink RX2 63 yX2_isPlace, Cond.instanceMethod yX2_isPlace, Cond.selects RX2 yX2_isPlace yX2_isPlace, Cond.code yX2_isPlace cX2_isPlace 2 (some .boolean), Cond.methodLink RX2 54 yX3_isOpen, Cond.instanceMethod yX3_isOpen, Cond.selects RX3 yX3_isOpen yX3_isOpen, Cond.code yX3_isOpen cX3_isOpen 2 (some .boolean), Cond.methodLink RX2 66 yX3_lengthOf, Cond.instanceMethod yX3_lengthOf, Cond.selects RX3 yX3_lengthOf yX3_lengthOf, Cond.code yX3_lengthOf cX3_lengthOf 2 (some .int), Cond.methodLink RX2 69 yX2_lengthOf, Cond.instanceMethod yX2_lengthOf]
def wsX8_portAt_r5 : List Cond := [Cond.selects RX2 yX2_lengthOf yX2_lengthOf, Cond.code yX2_lengthOf cX2_lengthOf 2 (some .int), Cond.fieldLink RX2 9 "ShipFromItself$Hull" "length" "[I", Cond.methodLink RX2 77 yX2_mayBeTakenFrom, Cond.instanceMethod yX2_mayBeTakenFrom, Cond.selects RX2 yX2_mayBeTakenFrom yX2_mayBeTakenFrom, Cond.code yX2_mayBeTakenFrom cX2_mayBeTakenFrom 4 (some .boolean), Cond.methodLink RX4 64 yX2_bringInto, Cond.instanceMethod yX2_bringInto, Cond.selects RX2 yX2_bringInto yX2_bringInto, Cond.code yX2_bringInto cX2_bringInto 4 none, Cond.methodLink RX2 81 yX3_bringTo, Cond.instanceMethod yX3_bringTo, Cond.selects RX3 yX3_bringTo yX3_bringTo, Cond.code yX3_bringTo cX3_bringTo 4 none, Cond.methodLink RX2 85 yX3_cutTo, Cond.instanceMethod yX3_cutTo, Cond.selects RX3 yX3_cutTo yX3_cutTo, Cond.code yX3_cutTo cX3_cutTo 3 none, Cond.methodLink RX5 51 yX4_end, Cond.instanceMethod yX4_end, Cond.selects RX4 yX4_end yX4_end, Cond.code yX4_end cX4_end 1 (some (.object "ShipFromItself$Load")), Cond.methodLink RX5 59 yX3_copyFrom]
def wsX8_portAt_r6 : List Cond := [Cond.methodLink RX5 65 yX2_watchesAfloat, Cond.instanceMethod yX2_watchesAfloat, Cond.selects RX2 yX2_watchesAfloat yX2_watchesAfloat, Cond.code yX2_watchesAfloat cX2_watchesAfloat 3 (some .int), Cond.methodLink RX2 138 Lib.Math.min.name, Cond.methodLink RX2 127 yX3_isSunk, Cond.methodLink RX2 131 yX2_isAtRest, Cond.instanceMethod yX2_isAtRest, Cond.selects RX2 yX2_isAtRest yX2_isAtRest, Cond.code yX2_isAtRest cX2_isAtRest 3 (some .boolean), Cond.methodLink RX2 115 yX3_timberIn, Cond.instanceMethod yX3_timberIn, Cond.selects RX3 yX3_timberIn yX3_timberIn, Cond.code yX3_timberIn cX3_timberIn 2 (some .int), Cond.methodLink RX2 118 yX3_wormsIn, Cond.instanceMethod yX3_wormsIn, Cond.selects RX3 yX3_wormsIn yX3_wormsIn, Cond.code yX3_wormsIn cX3_wormsIn 2 (some .int), Cond.methodLink RX2 124 yX2_hangsInAir, Cond.instanceMethod yX2_hangsInAir, Cond.selects RX2 yX2_hangsInAir yX2_hangsInAir, Cond.code yX2_hangsInAir cX2_hangsInAir 3 (some .boolean), Cond.methodLink RX2 135 yX2_watchesAtRest, Cond.instanceMethod yX2_watchesAtRest]
def wsX8_portAt_r7 : List Cond := [Cond.selects RX2 yX2_watchesAtRest yX2_watchesAtRest, Cond.code yX2_watchesAtRest cX2_watchesAtRest 3 (some .int), Cond.fieldLink RX2 28 "ShipFromItself$Hull" "pumps" "I", Cond.fieldLink RX2 31 "ShipFromItself$Hull" "hold" "I", Cond.methodLink RX2 91 yX2_leakOf, Cond.instanceMethod yX2_leakOf, Cond.selects RX2 yX2_leakOf yX2_leakOf, Cond.code yX2_leakOf cX2_leakOf 4 (some .int), Cond.methodLink RX2 59 yX2_letsIn, Cond.instanceMethod yX2_letsIn, Cond.selects RX2 yX2_letsIn yX2_letsIn, Cond.code yX2_letsIn cX2_letsIn 2 (some .int), Cond.fieldLink RX2 15 "ShipFromItself$Hull" "letsIn" "[I", Cond.methodLink RX2 88 yX3_waterInside, Cond.instanceMethod yX3_waterInside, Cond.selects RX3 yX3_waterInside yX3_waterInside, Cond.code yX3_waterInside cX3_waterInside 1 (some .int), Cond.methodLink RX2 141 yX2_passWatch, Cond.instanceMethod yX2_passWatch, Cond.selects RX2 yX2_passWatch yX2_passWatch, Cond.code yX2_passWatch cX2_passWatch 2 none, Cond.methodLink RX2 95 Lib.Math.max.name, Cond.methodLink RX2 101 yX3_setWater, Cond.instanceMethod yX3_setWater]
def wsX8_portAt_r8 : List Cond := [Cond.selects RX3 yX3_setWater yX3_setWater, Cond.code yX3_setWater cX3_setWater 2 none, Cond.methodLink RX2 105 yX3_sink, Cond.instanceMethod yX3_sink, Cond.selects RX3 yX3_sink yX3_sink, Cond.code yX3_sink cX3_sink 1 none, Cond.methodLink RX2 108 yX2_letWormsEat, Cond.instanceMethod yX2_letWormsEat, Cond.selects RX2 yX2_letWormsEat yX2_letWormsEat, Cond.code yX2_letWormsEat cX2_letWormsEat 4 none, Cond.methodLink RX2 121 yX3_addWorm, Cond.instanceMethod yX3_addWorm, Cond.selects RX3 yX3_addWorm yX3_addWorm, Cond.code yX3_addWorm cX3_addWorm 2 none, Cond.methodLink RX2 112 yX2_letComeDown, Cond.instanceMethod yX2_letComeDown, Cond.selects RX2 yX2_letComeDown yX2_letComeDown, Cond.code yX2_letComeDown cX2_letComeDown 3 none, Cond.methodLink RX5 55 yX4_copyTo, Cond.instanceMethod yX4_copyTo, Cond.selects RX4 yX4_copyTo yX4_copyTo, Cond.code yX4_copyTo cX4_copyTo 2 none, Cond.methodLink RX4 47 arraycopyName, Cond.methodLink RX8 182 yX5_foundMove]
def wsX8_portAt_r9 : List Cond := [Cond.instanceMethod yX5_foundMove, Cond.selects RX5 yX5_foundMove yX5_foundMove, Cond.code yX5_foundMove cX5_foundMove 2 (some .int)]
def wsX8_portAt : List Cond := .code yX8_portAt cX8_portAt 4 (some .int) :: ((wsX8_portAt_r1 ++ (wsX8_portAt_r2 ++ (wsX8_portAt_r3 ++ (wsX8_portAt_r4 ++ (wsX8_portAt_r5 ++ (wsX8_portAt_r6 ++ (wsX8_portAt_r7 ++ (wsX8_portAt_r8 ++ wsX8_portAt_r9)))))))) ++ wsX80 ++ wsX30 ++ wsX50 ++ wsX40 ++ wsX20)
def wsX8_commonDivisor : List Cond := .code yX8_commonDivisor cX8_commonDivisor 11 (some .long) :: ([])
def wsX8_leastTerms : List Cond := .code yX8_leastTerms cX8_leastTerms 7 (some .long) :: ([.methodLink RX8 249 yX8_commonDivisor, .static yX8_commonDivisor, .initialized RX8, .code yX8_commonDivisor cX8_commonDivisor 11 (some .long)])
def wsX8_storm_r1 : List Cond := [Cond.constantLong RX8 191 (-2), Cond.fieldLink RX8 50 "ShipFromItself" "chances" "LShipFromItself$Chances;", Cond.fieldLink RX8 19 "ShipFromItself" "hull" "LShipFromItself$Hull;", Cond.fieldLink RX8 26 "ShipFromItself" "now" "LShipFromItself$Load;", Cond.methodLink RX8 159 yX2_leakOf, Cond.instanceMethod yX2_leakOf, Cond.selects RX2 yX2_leakOf yX2_leakOf, Cond.initialized RX2, Cond.code yX2_leakOf cX2_leakOf 4 (some .int), Cond.fieldLink RX2 24 "ShipFromItself$Hull" "places" "I", Cond.methodLink RX2 54 yX3_isOpen, Cond.instanceMethod yX3_isOpen, Cond.selects RX3 yX3_isOpen yX3_isOpen, Cond.initialized RX3, Cond.code yX3_isOpen cX3_isOpen 2 (some .boolean), Cond.fieldLink RX3 21 "ShipFromItself$Load" "timberIn" "[I", Cond.methodLink RX2 59 yX2_letsIn, Cond.instanceMethod yX2_letsIn, Cond.selects RX2 yX2_letsIn yX2_letsIn, Cond.code yX2_letsIn cX2_letsIn 2 (some .int), Cond.fieldLink RX2 15 "ShipFromItself$Hull" "letsIn" "[I", Cond.methodLink RX8 193 yX1_begin, Cond.instanceMethod yX1_begin, Cond.selects RX1 yX1_begin yX1_begin]
def wsX8_storm_r2 : List Cond := [Cond.initialized RX1, Cond.code yX1_begin cX1_begin 3 none, Cond.fieldLink RX1 9 "ShipFromItself$Chances" "ways" "[J", Cond.fieldLink RX1 15 "ShipFromItself$Chances" "all" "J", Cond.methodLink RX8 93 yX2_places, Cond.instanceMethod yX2_places, Cond.selects RX2 yX2_places yX2_places, Cond.code yX2_places cX2_places 1 (some .int), Cond.methodLink RX8 169 yX3_isOpen, Cond.methodLink RX8 103 yX2_letsIn, Cond.methodLink RX8 197 yX1_tearOut, Cond.instanceMethod yX1_tearOut, Cond.selects RX1 yX1_tearOut yX1_tearOut, Cond.code yX1_tearOut cX1_tearOut 7 none, Cond.constantLong RX1 19 (10), Cond.methodLink RX8 200 yX1_upTo, Cond.instanceMethod yX1_upTo, Cond.selects RX1 yX1_upTo yX1_upTo, Cond.code yX1_upTo cX1_upTo 5 (some .long), Cond.methodLink RX8 204 yX1_all, Cond.instanceMethod yX1_all, Cond.selects RX1 yX1_all yX1_all, Cond.code yX1_all cX1_all 1 (some .long), Cond.methodLink RX8 208 yX8_leastTerms]
def wsX8_storm_r3 : List Cond := [Cond.static yX8_leastTerms, Cond.initialized RX8, Cond.code yX8_leastTerms cX8_leastTerms 7 (some .long), Cond.methodLink RX8 249 yX8_commonDivisor, Cond.static yX8_commonDivisor, Cond.code yX8_commonDivisor cX8_commonDivisor 11 (some .long)]
def wsX8_storm : List Cond := .code yX8_storm cX8_storm 5 (some .long) :: ((wsX8_storm_r1 ++ (wsX8_storm_r2 ++ wsX8_storm_r3)) ++ wsX80 ++ wsX20 ++ wsX30 ++ wsX10)
def wsX8_share_r1 : List Cond := [Cond.fieldLink RX8 19 "ShipFromItself" "hull" "LShipFromItself$Hull;", Cond.fieldLink RX8 26 "ShipFromItself" "now" "LShipFromItself$Load;", Cond.methodLink RX8 93 yX2_places, Cond.instanceMethod yX2_places, Cond.selects RX2 yX2_places yX2_places, Cond.initialized RX2, Cond.code yX2_places cX2_places 1 (some .int), Cond.fieldLink RX2 24 "ShipFromItself$Hull" "places" "I", Cond.methodLink RX8 109 yX3_timberIn, Cond.instanceMethod yX3_timberIn, Cond.selects RX3 yX3_timberIn yX3_timberIn, Cond.initialized RX3, Cond.code yX3_timberIn cX3_timberIn 2 (some .int), Cond.fieldLink RX3 21 "ShipFromItself$Load" "timberIn" "[I", Cond.methodLink RX8 115 yX3_lengthOf, Cond.instanceMethod yX3_lengthOf, Cond.selects RX3 yX3_lengthOf yX3_lengthOf, Cond.code yX3_lengthOf cX3_lengthOf 2 (some .int), Cond.fieldLink RX3 15 "ShipFromItself$Load" "length" "[I", Cond.methodLink RX8 116 yX2_shipOf, Cond.instanceMethod yX2_shipOf, Cond.selects RX2 yX2_shipOf yX2_shipOf, Cond.code yX2_shipOf cX2_shipOf 2 (some .int), Cond.fieldLink RX2 21 "ShipFromItself$Hull" "shipOf" "[I"]
def wsX8_share_r2 : List Cond := [Cond.methodLink RX8 208 yX8_leastTerms, Cond.static yX8_leastTerms, Cond.initialized RX8, Cond.code yX8_leastTerms cX8_leastTerms 7 (some .long), Cond.methodLink RX8 249 yX8_commonDivisor, Cond.static yX8_commonDivisor, Cond.code yX8_commonDivisor cX8_commonDivisor 11 (some .long)]
def wsX8_share : List Cond := .code yX8_share cX8_share 7 (some .int) :: ((wsX8_share_r1 ++ wsX8_share_r2) ++ wsX80 ++ wsX20 ++ wsX30)
def wsX8_log_r1 : List Cond := [Cond.fieldLink RX8 19 "ShipFromItself" "hull" "LShipFromItself$Hull;", Cond.fieldLink RX8 26 "ShipFromItself" "now" "LShipFromItself$Load;", Cond.fieldLink RX8 59 "ShipFromItself" "search" "LShipFromItself$Search;", Cond.methodLink RX8 93 yX2_places, Cond.instanceMethod yX2_places, Cond.selects RX2 yX2_places yX2_places, Cond.initialized RX2, Cond.code yX2_places cX2_places 1 (some .int), Cond.fieldLink RX2 24 "ShipFromItself$Hull" "places" "I", Cond.methodLink RX8 122 yX3_isSunk, Cond.instanceMethod yX3_isSunk, Cond.selects RX3 yX3_isSunk yX3_isSunk, Cond.initialized RX3, Cond.code yX3_isSunk cX3_isSunk 1 (some .boolean), Cond.fieldLink RX3 28 "ShipFromItself$Load" "sunk" "Z", Cond.methodLink RX8 212 yX5_rowsTo, Cond.instanceMethod yX5_rowsTo, Cond.selects RX5 yX5_rowsTo yX5_rowsTo, Cond.initialized RX5, Cond.code yX5_rowsTo cX5_rowsTo 6 (some .int), Cond.fieldLink RX5 19 "ShipFromItself$Search" "hull" "LShipFromItself$Hull;", Cond.fieldLink RX5 32 "ShipFromItself$Search" "rows" "LShipFromItself$Rows;", Cond.constant RX5 46 (1000000), Cond.methodLink RX5 68 yX2_openPlaces]
def wsX8_log_r2 : List Cond := [Cond.instanceMethod yX2_openPlaces, Cond.selects RX2 yX2_openPlaces yX2_openPlaces, Cond.code yX2_openPlaces cX2_openPlaces 4 (some .int), Cond.methodLink RX2 54 yX3_isOpen, Cond.instanceMethod yX3_isOpen, Cond.selects RX3 yX3_isOpen yX3_isOpen, Cond.code yX3_isOpen cX3_isOpen 2 (some .boolean), Cond.fieldLink RX3 21 "ShipFromItself$Load" "timberIn" "[I", Cond.methodLink RX5 42 yX4_begin, Cond.instanceMethod yX4_begin, Cond.selects RX4 yX4_begin yX4_begin, Cond.initialized RX4, Cond.code yX4_begin cX4_begin 3 none, Cond.fieldLink RX4 11 "ShipFromItself$Rows" "steps" "[LShipFromItself$Load;", Cond.methodLink RX4 38 Lib.Math.min.name, Cond.static Lib.Math.min.name, Cond.initialized "java/lang/Math", Cond.code Lib.Math.min.name Lib.Math.min.code 2 (some .int), Cond.methodLink RX4 44 Lib.Math.max.name, Cond.static Lib.Math.max.name, Cond.code Lib.Math.max.name Lib.Math.max.code 2 (some .int), Cond.fieldLink RX4 21 "ShipFromItself$Rows" "moves" "I", Cond.fieldLink RX4 25 "ShipFromItself$Rows" "begun" "Z", Cond.methodLink RX4 34 yX3_copyFrom]
def wsX8_log_r3 : List Cond := [Cond.instanceMethod yX3_copyFrom, Cond.selects RX3 yX3_copyFrom yX3_copyFrom, Cond.code yX3_copyFrom cX3_copyFrom 2 none, Cond.fieldLink RX3 9 "ShipFromItself$Load" "where" "[I", Cond.methodLink RX3 53 arraycopyName, Cond.native arraycopyName, Cond.static arraycopyName, Cond.initialized "java/lang/System", Cond.fieldLink RX3 15 "ShipFromItself$Load" "length" "[I", Cond.fieldLink RX3 18 "ShipFromItself$Load" "worms" "[I", Cond.fieldLink RX3 24 "ShipFromItself$Load" "water" "I", Cond.methodLink RX5 47 yX4_next, Cond.instanceMethod yX4_next, Cond.selects RX4 yX4_next yX4_next, Cond.code yX4_next cX4_next 4 (some .boolean), Cond.fieldLink RX4 17 "ShipFromItself$Rows" "row" "[I", Cond.constant RX4 53 (1000000), Cond.methodLink RX4 54 yX4_makeNextMove, Cond.instanceMethod yX4_makeNextMove, Cond.selects RX4 yX4_makeNextMove yX4_makeNextMove, Cond.code yX4_makeNextMove cX4_makeNextMove 5 (some .boolean), Cond.fieldLink RX4 29 "ShipFromItself$Rows" "hull" "LShipFromItself$Hull;", Cond.methodLink RX4 58 yX2_mayBeMoved, Cond.instanceMethod yX2_mayBeMoved]
def wsX8_log_r4 : List Cond := [Cond.selects RX2 yX2_mayBeMoved yX2_mayBeMoved, Cond.code yX2_mayBeMoved cX2_mayBeMoved 5 (some .boolean), Cond.methodLink RX2 70 yX3_whereIs, Cond.instanceMethod yX3_whereIs, Cond.selects RX3 yX3_whereIs yX3_whereIs, Cond.code yX3_whereIs cX3_whereIs 2 (some .int), Cond.methodLink RX2 73 yX2_fits, Cond.instanceMethod yX2_fits, Cond.selects RX2 yX2_fits yX2_fits, Cond.code yX2_fits cX2_fits 5 (some .boolean), Cond.methodLink RX2 61 yX2_restsOn, Cond.instanceMethod yX2_restsOn, Cond.selects RX2 yX2_restsOn yX2_restsOn, Cond.code yX2_restsOn cX2_restsOn 2 (some .int), Cond.fieldLink RX2 18 "ShipFromItself$Hull" "restsOn" "[I", Cond.methodLink RX2 63 yX2_isPlace, Cond.instanceMethod yX2_isPlace, Cond.selects RX2 yX2_isPlace yX2_isPlace, Cond.code yX2_isPlace cX2_isPlace 2 (some .boolean), Cond.methodLink RX2 66 yX3_lengthOf, Cond.instanceMethod yX3_lengthOf, Cond.selects RX3 yX3_lengthOf yX3_lengthOf, Cond.code yX3_lengthOf cX3_lengthOf 2 (some .int), Cond.methodLink RX2 69 yX2_lengthOf]
def wsX8_log_r5 : List Cond := [Cond.instanceMethod yX2_lengthOf, Cond.selects RX2 yX2_lengthOf yX2_lengthOf, Cond.code yX2_lengthOf cX2_lengthOf 2 (some .int), Cond.fieldLink RX2 9 "ShipFromItself$Hull" "length" "[I", Cond.methodLink RX2 77 yX2_mayBeTakenFrom, Cond.instanceMethod yX2_mayBeTakenFrom, Cond.selects RX2 yX2_mayBeTakenFrom yX2_mayBeTakenFrom, Cond.code yX2_mayBeTakenFrom cX2_mayBeTakenFrom 4 (some .boolean), Cond.methodLink RX4 64 yX2_bringInto, Cond.instanceMethod yX2_bringInto, Cond.selects RX2 yX2_bringInto yX2_bringInto, Cond.code yX2_bringInto cX2_bringInto 4 none, Cond.methodLink RX2 81 yX3_bringTo, Cond.instanceMethod yX3_bringTo, Cond.selects RX3 yX3_bringTo yX3_bringTo, Cond.code yX3_bringTo cX3_bringTo 4 none, Cond.methodLink RX2 85 yX3_cutTo, Cond.instanceMethod yX3_cutTo, Cond.selects RX3 yX3_cutTo yX3_cutTo, Cond.code yX3_cutTo cX3_cutTo 3 none, Cond.methodLink RX5 51 yX4_end, Cond.instanceMethod yX4_end, Cond.selects RX4 yX4_end yX4_end, Cond.code yX4_end cX4_end 1 (some (.object "ShipFromItself$Load"))]
def wsX8_log_r6 : List Cond := [Cond.methodLink RX5 71 yX5_lastMovesTo, Cond.instanceMethod yX5_lastMovesTo, Cond.selects RX5 yX5_lastMovesTo yX5_lastMovesTo, Cond.code yX5_lastMovesTo cX5_lastMovesTo 8 (some .int), Cond.methodLink RX5 75 yJ6_bitCount_0f7a4, Cond.static yJ6_bitCount_0f7a4, Cond.initialized RJ6, Cond.code yJ6_bitCount_0f7a4 cJ6_bitCount_0f7a4 1 (some .int), Cond.constant RJ6 265 (1431655765), Cond.constant RJ6 266 (858993459), Cond.constant RJ6 267 (252645135), Cond.methodLink RX5 81 yJ6_numberOfTrailingZeros_0f7a4, Cond.static yJ6_numberOfTrailingZeros_0f7a4, Cond.code yJ6_numberOfTrailingZeros_0f7a4 cJ6_numberOfTrailingZeros_0f7a4 2 (some .int), Cond.constant RJ6 264 (65536), Cond.methodLink RX5 84 yX2_places, Cond.methodLink RX5 88 yX2_mayBeMoved, Cond.methodLink RX5 92 yX3_whereIs, Cond.methodLink RX5 95 yX5_bitOf, Cond.static yX5_bitOf, Cond.code yX5_bitOf cX5_bitOf 1 (some .int)]
def wsX8_log : List Cond := .code yX8_log cX8_log 3 (some .int) :: ((wsX8_log_r1 ++ (wsX8_log_r2 ++ (wsX8_log_r3 ++ (wsX8_log_r4 ++ (wsX8_log_r5 ++ wsX8_log_r6))))) ++ wsX80 ++ wsX20 ++ wsX30 ++ wsX50 ++ wsX40)
def wsX8_keep_r1 : List Cond := [Cond.fieldLink RX8 43 "ShipFromItself" "slots" "LShipFromItself$Slots;", Cond.fieldLink RX8 26 "ShipFromItself" "now" "LShipFromItself$Load;", Cond.methodLink RX8 216 yX6_isSlot, Cond.instanceMethod yX6_isSlot, Cond.selects RX6 yX6_isSlot yX6_isSlot, Cond.initialized RX6, Cond.code yX6_isSlot cX6_isSlot 2 (some .boolean), Cond.methodLink RX8 219 yX6_store, Cond.instanceMethod yX6_store, Cond.selects RX6 yX6_store yX6_store, Cond.code yX6_store cX6_store 3 none, Cond.fieldLink RX6 11 "ShipFromItself$Slots" "stored" "[LShipFromItself$Load;", Cond.fieldLink RX6 17 "ShipFromItself$Slots" "filled" "[Z", Cond.methodLink RX6 22 yX6_isSlot, Cond.methodLink RX6 26 yX3_copyFrom, Cond.instanceMethod yX3_copyFrom, Cond.selects RX3 yX3_copyFrom yX3_copyFrom, Cond.initialized RX3, Cond.code yX3_copyFrom cX3_copyFrom 2 none, Cond.fieldLink RX3 9 "ShipFromItself$Load" "where" "[I", Cond.methodLink RX3 53 arraycopyName, Cond.native arraycopyName, Cond.static arraycopyName, Cond.initialized "java/lang/System"]
def wsX8_keep_r2 : List Cond := [Cond.fieldLink RX3 15 "ShipFromItself$Load" "length" "[I", Cond.fieldLink RX3 18 "ShipFromItself$Load" "worms" "[I", Cond.fieldLink RX3 21 "ShipFromItself$Load" "timberIn" "[I", Cond.fieldLink RX3 24 "ShipFromItself$Load" "water" "I", Cond.fieldLink RX3 28 "ShipFromItself$Load" "sunk" "Z", Cond.methodLink RX8 152 yX3_waterInside, Cond.instanceMethod yX3_waterInside, Cond.selects RX3 yX3_waterInside yX3_waterInside, Cond.code yX3_waterInside cX3_waterInside 1 (some .int)]
def wsX8_keep : List Cond := .code yX8_keep cX8_keep 2 (some .int) :: ((wsX8_keep_r1 ++ wsX8_keep_r2) ++ wsX80 ++ wsX60 ++ wsX30)
def wsX8_again_r1 : List Cond := [Cond.fieldLink RX8 43 "ShipFromItself" "slots" "LShipFromItself$Slots;", Cond.fieldLink RX8 26 "ShipFromItself" "now" "LShipFromItself$Load;", Cond.fieldLink RX8 36 "ShipFromItself" "acts" "LShipFromItself$ActRow;", Cond.methodLink RX8 216 yX6_isSlot, Cond.instanceMethod yX6_isSlot, Cond.selects RX6 yX6_isSlot yX6_isSlot, Cond.initialized RX6, Cond.code yX6_isSlot cX6_isSlot 2 (some .boolean), Cond.methodLink RX8 223 yX6_isFilled, Cond.instanceMethod yX6_isFilled, Cond.selects RX6 yX6_isFilled yX6_isFilled, Cond.code yX6_isFilled cX6_isFilled 2 (some .boolean), Cond.fieldLink RX6 17 "ShipFromItself$Slots" "filled" "[Z", Cond.methodLink RX6 22 yX6_isSlot, Cond.methodLink RX8 226 yX6_bringBack, Cond.instanceMethod yX6_bringBack, Cond.selects RX6 yX6_bringBack yX6_bringBack, Cond.code yX6_bringBack cX6_bringBack 3 none, Cond.fieldLink RX6 11 "ShipFromItself$Slots" "stored" "[LShipFromItself$Load;", Cond.methodLink RX6 30 yX6_isFilled, Cond.methodLink RX6 26 yX3_copyFrom, Cond.instanceMethod yX3_copyFrom, Cond.selects RX3 yX3_copyFrom yX3_copyFrom, Cond.initialized RX3]
def wsX8_again_r2 : List Cond := [Cond.code yX3_copyFrom cX3_copyFrom 2 none, Cond.fieldLink RX3 9 "ShipFromItself$Load" "where" "[I", Cond.methodLink RX3 53 arraycopyName, Cond.native arraycopyName, Cond.static arraycopyName, Cond.initialized "java/lang/System", Cond.fieldLink RX3 15 "ShipFromItself$Load" "length" "[I", Cond.fieldLink RX3 18 "ShipFromItself$Load" "worms" "[I", Cond.fieldLink RX3 21 "ShipFromItself$Load" "timberIn" "[I", Cond.fieldLink RX3 24 "ShipFromItself$Load" "water" "I", Cond.fieldLink RX3 28 "ShipFromItself$Load" "sunk" "Z", Cond.methodLink RX8 89 yX0_forgetAll, Cond.instanceMethod yX0_forgetAll, Cond.selects RX0 yX0_forgetAll yX0_forgetAll, Cond.initialized RX0, Cond.code yX0_forgetAll cX0_forgetAll 1 none, Cond.fieldLink RX0 21 "ShipFromItself$ActRow" "size" "I", Cond.methodLink RX8 152 yX3_waterInside, Cond.instanceMethod yX3_waterInside, Cond.selects RX3 yX3_waterInside yX3_waterInside, Cond.code yX3_waterInside cX3_waterInside 1 (some .int)]
def wsX8_again : List Cond := .code yX8_again cX8_again 2 (some .int) :: ((wsX8_again_r1 ++ wsX8_again_r2) ++ wsX80 ++ wsX60 ++ wsX30 ++ wsX00)
def wsX8_timbersThatAre : List Cond := .code yX8_timbersThatAre cX8_timbersThatAre 4 (some .int) :: ([.fieldLink RX8 19 "ShipFromItself" "hull" "LShipFromItself$Hull;", .fieldLink RX8 26 "ShipFromItself" "now" "LShipFromItself$Load;", .methodLink RX8 93 yX2_places, .instanceMethod yX2_places, .selects RX2 yX2_places yX2_places, .initialized RX2, .code yX2_places cX2_places 1 (some .int), .fieldLink RX2 24 "ShipFromItself$Hull" "places" "I", .methodLink RX8 112 yX3_whereIs, .instanceMethod yX3_whereIs, .selects RX3 yX3_whereIs yX3_whereIs, .initialized RX3, .code yX3_whereIs cX3_whereIs 2 (some .int), .fieldLink RX3 9 "ShipFromItself$Load" "where" "[I"] ++ wsX80 ++ wsX20 ++ wsX30)
def wsX8_count_r1 : List Cond := [Cond.fieldLink RX8 10 "ShipFromItself" "text" "LShipFromItself$Text;", Cond.fieldLink RX8 19 "ShipFromItself" "hull" "LShipFromItself$Hull;", Cond.fieldLink RX8 26 "ShipFromItself" "now" "LShipFromItself$Load;", Cond.fieldLink RX8 36 "ShipFromItself" "acts" "LShipFromItself$ActRow;", Cond.methodLink RX8 71 yX7_size, Cond.instanceMethod yX7_size, Cond.selects RX7 yX7_size yX7_size, Cond.initialized RX7, Cond.code yX7_size cX7_size 1 (some .int), Cond.fieldLink RX7 15 "ShipFromItself$Text" "size" "I", Cond.methodLink RX8 93 yX2_places, Cond.instanceMethod yX2_places, Cond.selects RX2 yX2_places yX2_places, Cond.initialized RX2, Cond.code yX2_places cX2_places 1 (some .int), Cond.fieldLink RX2 24 "ShipFromItself$Hull" "places" "I", Cond.methodLink RX8 229 yX2_openPlaces, Cond.instanceMethod yX2_openPlaces, Cond.selects RX2 yX2_openPlaces yX2_openPlaces, Cond.code yX2_openPlaces cX2_openPlaces 4 (some .int), Cond.methodLink RX2 54 yX3_isOpen, Cond.instanceMethod yX3_isOpen, Cond.selects RX3 yX3_isOpen yX3_isOpen, Cond.initialized RX3]
def wsX8_count_r2 : List Cond := [Cond.code yX3_isOpen cX3_isOpen 2 (some .boolean), Cond.fieldLink RX3 21 "ShipFromItself$Load" "timberIn" "[I", Cond.methodLink RX8 232 yJ6_bitCount_0f7a4, Cond.static yJ6_bitCount_0f7a4, Cond.initialized RJ6, Cond.code yJ6_bitCount_0f7a4 cJ6_bitCount_0f7a4 1 (some .int), Cond.constant RJ6 265 (1431655765), Cond.constant RJ6 266 (858993459), Cond.constant RJ6 267 (252645135), Cond.methodLink RX8 237 yX8_timbersThatAre, Cond.instanceMethod yX8_timbersThatAre, Cond.selects RX8 yX8_timbersThatAre yX8_timbersThatAre, Cond.initialized RX8, Cond.code yX8_timbersThatAre cX8_timbersThatAre 4 (some .int), Cond.methodLink RX8 112 yX3_whereIs, Cond.instanceMethod yX3_whereIs, Cond.selects RX3 yX3_whereIs yX3_whereIs, Cond.code yX3_whereIs cX3_whereIs 2 (some .int), Cond.fieldLink RX3 9 "ShipFromItself$Load" "where" "[I", Cond.methodLink RX8 152 yX3_waterInside, Cond.instanceMethod yX3_waterInside, Cond.selects RX3 yX3_waterInside yX3_waterInside, Cond.code yX3_waterInside cX3_waterInside 1 (some .int), Cond.fieldLink RX3 24 "ShipFromItself$Load" "water" "I"]
def wsX8_count_r3 : List Cond := [Cond.methodLink RX8 122 yX3_isSunk, Cond.instanceMethod yX3_isSunk, Cond.selects RX3 yX3_isSunk yX3_isSunk, Cond.code yX3_isSunk cX3_isSunk 1 (some .boolean), Cond.fieldLink RX3 28 "ShipFromItself$Load" "sunk" "Z", Cond.methodLink RX8 240 yX2_pumps, Cond.instanceMethod yX2_pumps, Cond.selects RX2 yX2_pumps yX2_pumps, Cond.code yX2_pumps cX2_pumps 1 (some .int), Cond.fieldLink RX2 28 "ShipFromItself$Hull" "pumps" "I", Cond.methodLink RX8 243 yX2_hold, Cond.instanceMethod yX2_hold, Cond.selects RX2 yX2_hold yX2_hold, Cond.code yX2_hold cX2_hold 1 (some .int), Cond.fieldLink RX2 31 "ShipFromItself$Hull" "hold" "I", Cond.methodLink RX8 155 yX0_size, Cond.instanceMethod yX0_size, Cond.selects RX0 yX0_size yX0_size, Cond.initialized RX0, Cond.code yX0_size cX0_size 1 (some .int), Cond.fieldLink RX0 21 "ShipFromItself$ActRow" "size" "I"]
def wsX8_count : List Cond := .code yX8_count cX8_count 2 (some .int) :: ((wsX8_count_r1 ++ (wsX8_count_r2 ++ wsX8_count_r3)) ++ wsX80 ++ wsX70 ++ wsX20 ++ wsX30 ++ wsX00)
def wsX9_init_r1 : List Cond := [Cond.methodLink RX9 1 objectInit, Cond.instanceMethod objectInit, Cond.code objectInit ⟨#[0xb1]⟩ 1 none, Cond.arrayClass .int, Cond.fieldLink RX9 7 "ShipFromItselfModel" "readLong" "[I", Cond.fieldLink RX9 13 "ShipFromItselfModel" "readIn" "[I", Cond.fieldLink RX9 16 "ShipFromItselfModel" "readRest" "[I", Cond.fieldLink RX9 19 "ShipFromItselfModel" "readShip" "[I", Cond.fieldLink RX9 22 "ShipFromItselfModel" "readWorms" "[I", Cond.fieldLink RX9 25 "ShipFromItselfModel" "wide" "[I", Cond.fieldLink RX9 28 "ShipFromItselfModel" "lets" "[I", Cond.fieldLink RX9 31 "ShipFromItselfModel" "rest" "[I", Cond.fieldLink RX9 34 "ShipFromItselfModel" "ships" "[I", Cond.fieldLink RX9 37 "ShipFromItselfModel" "text" "[I", Cond.fieldLink RX9 40 "ShipFromItselfModel" "at" "[I", Cond.fieldLink RX9 43 "ShipFromItselfModel" "size" "[I", Cond.fieldLink RX9 46 "ShipFromItselfModel" "worms" "[I", Cond.fieldLink RX9 49 "ShipFromItselfModel" "row" "[I", Cond.fieldLink RX9 52 "ShipFromItselfModel" "found" "[I", Cond.arrayClass .long, Cond.fieldLink RX9 55 "ShipFromItselfModel" "sums" "[J", Cond.arrayClass .boolean, Cond.fieldLink RX9 59 "ShipFromItselfModel" "isKept" "[Z", Cond.fieldLink RX9 63 "ShipFromItselfModel" "kept" "[I"]
def wsX9_init_r2 : List Cond := [Cond.fieldLink RX9 66 "ShipFromItselfModel" "keptWater" "[I", Cond.fieldLink RX9 69 "ShipFromItselfModel" "keptSunk" "[Z", Cond.fieldLink RX9 72 "ShipFromItselfModel" "bears" "I"]
def wsX9_init : List Cond := .code yX9_init cX9_init 1 none :: ((wsX9_init_r1 ++ wsX9_init_r2) ++ wsX90)
def wsX9_in : List Cond := .code yX9_in cX9_in 6 (some .boolean) :: ([])
def wsX9_write : List Cond := .code yX9_write cX9_write 5 (some .int) :: ([.constantLong RX9 76 (8), .fieldLink RX9 82 "ShipFromItselfModel" "length" "I", .fieldLink RX9 37 "ShipFromItselfModel" "text" "[I", .constantLong RX9 85 (255), .methodLink RX9 78 yX9_in, .static yX9_in, .initialized RX9, .code yX9_in cX9_in 6 (some .boolean)] ++ wsX90)
def wsX9_wipe : List Cond := .code yX9_wipe cX9_wipe 2 (some .int) :: ([.fieldLink RX9 82 "ShipFromItselfModel" "length" "I"] ++ wsX90)
def wsX9_figure : List Cond := .code yX9_figure cX9_figure 4 (some .int) :: ([.fieldLink RX9 87 "ShipFromItselfModel" "faultAt" "I", .fieldLink RX9 90 "ShipFromItselfModel" "pos" "I", .fieldLink RX9 82 "ShipFromItselfModel" "length" "I", .fieldLink RX9 37 "ShipFromItselfModel" "text" "[I", .methodLink RX9 78 yX9_in, .static yX9_in, .initialized RX9, .code yX9_in cX9_in 6 (some .boolean)] ++ wsX90)
def wsX9_readPlace : List Cond := .code yX9_readPlace cX9_readPlace 3 none :: ([.fieldLink RX9 90 "ShipFromItselfModel" "pos" "I", .fieldLink RX9 93 "ShipFromItselfModel" "readMany" "I", .fieldLink RX9 7 "ShipFromItselfModel" "readLong" "[I", .fieldLink RX9 13 "ShipFromItselfModel" "readIn" "[I", .fieldLink RX9 16 "ShipFromItselfModel" "readRest" "[I", .fieldLink RX9 87 "ShipFromItselfModel" "faultAt" "I", .fieldLink RX9 82 "ShipFromItselfModel" "length" "I", .fieldLink RX9 37 "ShipFromItselfModel" "text" "[I", .fieldLink RX9 19 "ShipFromItselfModel" "readShip" "[I", .fieldLink RX9 22 "ShipFromItselfModel" "readWorms" "[I", .methodLink RX9 96 yX9_figure, .instanceMethod yX9_figure, .selects RX9 yX9_figure yX9_figure, .initialized RX9, .code yX9_figure cX9_figure 4 (some .int), .methodLink RX9 78 yX9_in, .static yX9_in, .code yX9_in cX9_in 6 (some .boolean)] ++ wsX90)
def wsX9_readText : List Cond := .code yX9_readText cX9_readText 3 (some .int) :: ([.fieldLink RX9 90 "ShipFromItselfModel" "pos" "I", .fieldLink RX9 87 "ShipFromItselfModel" "faultAt" "I", .fieldLink RX9 93 "ShipFromItselfModel" "readMany" "I", .fieldLink RX9 82 "ShipFromItselfModel" "length" "I", .fieldLink RX9 37 "ShipFromItselfModel" "text" "[I", .fieldLink RX9 100 "ShipFromItselfModel" "readPumps" "I", .fieldLink RX9 103 "ShipFromItselfModel" "readBears" "I", .methodLink RX9 96 yX9_figure, .instanceMethod yX9_figure, .selects RX9 yX9_figure yX9_figure, .initialized RX9, .code yX9_figure cX9_figure 4 (some .int), .methodLink RX9 78 yX9_in, .static yX9_in, .code yX9_in cX9_in 6 (some .boolean), .methodLink RX9 106 yX9_readPlace, .instanceMethod yX9_readPlace, .selects RX9 yX9_readPlace yX9_readPlace, .code yX9_readPlace cX9_readPlace 3 none, .fieldLink RX9 7 "ShipFromItselfModel" "readLong" "[I", .fieldLink RX9 13 "ShipFromItselfModel" "readIn" "[I", .fieldLink RX9 16 "ShipFromItselfModel" "readRest" "[I", .fieldLink RX9 19 "ShipFromItselfModel" "readShip" "[I", .fieldLink RX9 22 "ShipFromItselfModel" "readWorms" "[I"] ++ wsX90)
def wsX9_fault_r1 : List Cond := [Cond.methodLink RX9 110 yX9_readText, Cond.instanceMethod yX9_readText, Cond.selects RX9 yX9_readText yX9_readText, Cond.initialized RX9, Cond.code yX9_readText cX9_readText 3 (some .int), Cond.fieldLink RX9 90 "ShipFromItselfModel" "pos" "I", Cond.fieldLink RX9 87 "ShipFromItselfModel" "faultAt" "I", Cond.fieldLink RX9 93 "ShipFromItselfModel" "readMany" "I", Cond.fieldLink RX9 82 "ShipFromItselfModel" "length" "I", Cond.fieldLink RX9 37 "ShipFromItselfModel" "text" "[I", Cond.fieldLink RX9 100 "ShipFromItselfModel" "readPumps" "I", Cond.fieldLink RX9 103 "ShipFromItselfModel" "readBears" "I", Cond.methodLink RX9 96 yX9_figure, Cond.instanceMethod yX9_figure, Cond.selects RX9 yX9_figure yX9_figure, Cond.code yX9_figure cX9_figure 4 (some .int), Cond.methodLink RX9 78 yX9_in, Cond.static yX9_in, Cond.code yX9_in cX9_in 6 (some .boolean), Cond.methodLink RX9 106 yX9_readPlace, Cond.instanceMethod yX9_readPlace, Cond.selects RX9 yX9_readPlace yX9_readPlace, Cond.code yX9_readPlace cX9_readPlace 3 none, Cond.fieldLink RX9 7 "ShipFromItselfModel" "readLong" "[I"]
def wsX9_fault_r2 : List Cond := [Cond.fieldLink RX9 13 "ShipFromItselfModel" "readIn" "[I", Cond.fieldLink RX9 16 "ShipFromItselfModel" "readRest" "[I", Cond.fieldLink RX9 19 "ShipFromItselfModel" "readShip" "[I", Cond.fieldLink RX9 22 "ShipFromItselfModel" "readWorms" "[I"]
def wsX9_fault : List Cond := .code yX9_fault cX9_fault 1 (some .int) :: ((wsX9_fault_r1 ++ wsX9_fault_r2) ++ wsX90)
def wsX9_ship_r1 : List Cond := [Cond.fieldLink RX9 93 "ShipFromItselfModel" "readMany" "I", Cond.fieldLink RX9 114 "ShipFromItselfModel" "many" "I", Cond.fieldLink RX9 100 "ShipFromItselfModel" "readPumps" "I", Cond.fieldLink RX9 117 "ShipFromItselfModel" "pumps" "I", Cond.fieldLink RX9 103 "ShipFromItselfModel" "readBears" "I", Cond.fieldLink RX9 72 "ShipFromItselfModel" "bears" "I", Cond.fieldLink RX9 25 "ShipFromItselfModel" "wide" "[I", Cond.fieldLink RX9 7 "ShipFromItselfModel" "readLong" "[I", Cond.fieldLink RX9 28 "ShipFromItselfModel" "lets" "[I", Cond.fieldLink RX9 13 "ShipFromItselfModel" "readIn" "[I", Cond.fieldLink RX9 31 "ShipFromItselfModel" "rest" "[I", Cond.fieldLink RX9 16 "ShipFromItselfModel" "readRest" "[I", Cond.fieldLink RX9 34 "ShipFromItselfModel" "ships" "[I", Cond.fieldLink RX9 19 "ShipFromItselfModel" "readShip" "[I", Cond.fieldLink RX9 40 "ShipFromItselfModel" "at" "[I", Cond.fieldLink RX9 43 "ShipFromItselfModel" "size" "[I", Cond.fieldLink RX9 46 "ShipFromItselfModel" "worms" "[I", Cond.fieldLink RX9 22 "ShipFromItselfModel" "readWorms" "[I", Cond.fieldLink RX9 120 "ShipFromItselfModel" "water" "I", Cond.fieldLink RX9 123 "ShipFromItselfModel" "isSunk" "Z", Cond.fieldLink RX9 127 "ShipFromItselfModel" "acts" "I", Cond.fieldLink RX9 59 "ShipFromItselfModel" "isKept" "[Z", Cond.methodLink RX9 110 yX9_readText, Cond.instanceMethod yX9_readText]
def wsX9_ship_r2 : List Cond := [Cond.selects RX9 yX9_readText yX9_readText, Cond.initialized RX9, Cond.code yX9_readText cX9_readText 3 (some .int), Cond.fieldLink RX9 90 "ShipFromItselfModel" "pos" "I", Cond.fieldLink RX9 87 "ShipFromItselfModel" "faultAt" "I", Cond.fieldLink RX9 82 "ShipFromItselfModel" "length" "I", Cond.fieldLink RX9 37 "ShipFromItselfModel" "text" "[I", Cond.methodLink RX9 96 yX9_figure, Cond.instanceMethod yX9_figure, Cond.selects RX9 yX9_figure yX9_figure, Cond.code yX9_figure cX9_figure 4 (some .int), Cond.methodLink RX9 78 yX9_in, Cond.static yX9_in, Cond.code yX9_in cX9_in 6 (some .boolean), Cond.methodLink RX9 106 yX9_readPlace, Cond.instanceMethod yX9_readPlace, Cond.selects RX9 yX9_readPlace yX9_readPlace, Cond.code yX9_readPlace cX9_readPlace 3 none]
def wsX9_ship : List Cond := .code yX9_ship cX9_ship 2 (some .int) :: ((wsX9_ship_r1 ++ wsX9_ship_r2) ++ wsX90)
def wsX9_isPlace : List Cond := .code yX9_isPlace cX9_isPlace 2 (some .boolean) :: ([.fieldLink RX9 114 "ShipFromItselfModel" "many" "I", .methodLink RX9 78 yX9_in, .static yX9_in, .initialized RX9, .code yX9_in cX9_in 6 (some .boolean)] ++ wsX90)
def wsX9_inside : List Cond := .code yX9_inside cX9_inside 4 (some .int) :: ([.fieldLink RX9 114 "ShipFromItselfModel" "many" "I", .fieldLink RX9 40 "ShipFromItselfModel" "at" "[I"] ++ wsX90)
def wsX9_place : List Cond := .code yX9_place cX9_place 3 (some .int) :: ([.fieldLink RX9 25 "ShipFromItselfModel" "wide" "[I", .fieldLink RX9 28 "ShipFromItselfModel" "lets" "[I", .fieldLink RX9 31 "ShipFromItselfModel" "rest" "[I", .methodLink RX9 130 yX9_isPlace, .instanceMethod yX9_isPlace, .selects RX9 yX9_isPlace yX9_isPlace, .initialized RX9, .code yX9_isPlace cX9_isPlace 2 (some .boolean), .fieldLink RX9 114 "ShipFromItselfModel" "many" "I", .methodLink RX9 78 yX9_in, .static yX9_in, .code yX9_in cX9_in 6 (some .boolean), .methodLink RX9 134 yX9_inside, .instanceMethod yX9_inside, .selects RX9 yX9_inside yX9_inside, .code yX9_inside cX9_inside 4 (some .int), .fieldLink RX9 40 "ShipFromItselfModel" "at" "[I"] ++ wsX90)
def wsX9_timber : List Cond := .code yX9_timber cX9_timber 3 (some .int) :: ([.fieldLink RX9 40 "ShipFromItselfModel" "at" "[I", .fieldLink RX9 43 "ShipFromItselfModel" "size" "[I", .fieldLink RX9 34 "ShipFromItselfModel" "ships" "[I", .fieldLink RX9 46 "ShipFromItselfModel" "worms" "[I", .methodLink RX9 130 yX9_isPlace, .instanceMethod yX9_isPlace, .selects RX9 yX9_isPlace yX9_isPlace, .initialized RX9, .code yX9_isPlace cX9_isPlace 2 (some .boolean), .fieldLink RX9 114 "ShipFromItselfModel" "many" "I", .methodLink RX9 78 yX9_in, .static yX9_in, .code yX9_in cX9_in 6 (some .boolean)] ++ wsX90)
def wsX9_isBorne : List Cond := .code yX9_isBorne cX9_isBorne 5 (some .boolean) :: ([.fieldLink RX9 114 "ShipFromItselfModel" "many" "I", .fieldLink RX9 31 "ShipFromItselfModel" "rest" "[I", .methodLink RX9 134 yX9_inside, .instanceMethod yX9_inside, .selects RX9 yX9_inside yX9_inside, .initialized RX9, .code yX9_inside cX9_inside 4 (some .int), .fieldLink RX9 40 "ShipFromItselfModel" "at" "[I"] ++ wsX90)
def wsX9_canTake : List Cond := .code yX9_canTake cX9_canTake 3 (some .boolean) :: ([.methodLink RX9 134 yX9_inside, .instanceMethod yX9_inside, .selects RX9 yX9_inside yX9_inside, .initialized RX9, .code yX9_inside cX9_inside 4 (some .int), .fieldLink RX9 114 "ShipFromItselfModel" "many" "I", .fieldLink RX9 40 "ShipFromItselfModel" "at" "[I", .methodLink RX9 137 yX9_isBorne, .instanceMethod yX9_isBorne, .selects RX9 yX9_isBorne yX9_isBorne, .code yX9_isBorne cX9_isBorne 5 (some .boolean), .fieldLink RX9 31 "ShipFromItselfModel" "rest" "[I"] ++ wsX90)
def wsX9_canPut : List Cond := .code yX9_canPut cX9_canPut 4 (some .boolean) :: ([.fieldLink RX9 40 "ShipFromItselfModel" "at" "[I", .fieldLink RX9 43 "ShipFromItselfModel" "size" "[I", .fieldLink RX9 25 "ShipFromItselfModel" "wide" "[I", .fieldLink RX9 31 "ShipFromItselfModel" "rest" "[I", .methodLink RX9 134 yX9_inside, .instanceMethod yX9_inside, .selects RX9 yX9_inside yX9_inside, .initialized RX9, .code yX9_inside cX9_inside 4 (some .int), .fieldLink RX9 114 "ShipFromItselfModel" "many" "I"] ++ wsX90)
def wsX9_goes : List Cond := .code yX9_goes cX9_goes 5 (some .boolean) :: ([.fieldLink RX9 40 "ShipFromItselfModel" "at" "[I", .fieldLink RX9 43 "ShipFromItselfModel" "size" "[I", .fieldLink RX9 25 "ShipFromItselfModel" "wide" "[I", .methodLink RX9 141 yX9_canTake, .instanceMethod yX9_canTake, .selects RX9 yX9_canTake yX9_canTake, .initialized RX9, .code yX9_canTake cX9_canTake 3 (some .boolean), .methodLink RX9 134 yX9_inside, .instanceMethod yX9_inside, .selects RX9 yX9_inside yX9_inside, .code yX9_inside cX9_inside 4 (some .int), .fieldLink RX9 114 "ShipFromItselfModel" "many" "I", .methodLink RX9 137 yX9_isBorne, .instanceMethod yX9_isBorne, .selects RX9 yX9_isBorne yX9_isBorne, .code yX9_isBorne cX9_isBorne 5 (some .boolean), .fieldLink RX9 31 "ShipFromItselfModel" "rest" "[I", .methodLink RX9 144 yX9_canPut, .instanceMethod yX9_canPut, .selects RX9 yX9_canPut yX9_canPut, .code yX9_canPut cX9_canPut 4 (some .boolean)] ++ wsX90)
def wsX9_copy : List Cond := .code yX9_copy cX9_copy 4 none :: ([.fieldLink RX9 40 "ShipFromItselfModel" "at" "[I", .fieldLink RX9 43 "ShipFromItselfModel" "size" "[I", .fieldLink RX9 46 "ShipFromItselfModel" "worms" "[I"] ++ wsX90)
def wsX9_openSet : List Cond := .code yX9_openSet cX9_openSet 4 (some .int) :: ([.fieldLink RX9 114 "ShipFromItselfModel" "many" "I", .methodLink RX9 134 yX9_inside, .instanceMethod yX9_inside, .selects RX9 yX9_inside yX9_inside, .initialized RX9, .code yX9_inside cX9_inside 4 (some .int), .fieldLink RX9 40 "ShipFromItselfModel" "at" "[I"] ++ wsX90)
def wsX9_leakOf : List Cond := .code yX9_leakOf cX9_leakOf 5 (some .int) :: ([.fieldLink RX9 114 "ShipFromItselfModel" "many" "I", .fieldLink RX9 28 "ShipFromItselfModel" "lets" "[I", .methodLink RX9 148 yX9_openSet, .instanceMethod yX9_openSet, .selects RX9 yX9_openSet yX9_openSet, .initialized RX9, .code yX9_openSet cX9_openSet 4 (some .int), .methodLink RX9 134 yX9_inside, .instanceMethod yX9_inside, .selects RX9 yX9_inside yX9_inside, .code yX9_inside cX9_inside 4 (some .int), .fieldLink RX9 40 "ShipFromItselfModel" "at" "[I"] ++ wsX90)
def wsX9_comeDown : List Cond := .code yX9_comeDown cX9_comeDown 5 none :: ([.fieldLink RX9 114 "ShipFromItselfModel" "many" "I", .fieldLink RX9 40 "ShipFromItselfModel" "at" "[I", .fieldLink RX9 31 "ShipFromItselfModel" "rest" "[I", .methodLink RX9 134 yX9_inside, .instanceMethod yX9_inside, .selects RX9 yX9_inside yX9_inside, .initialized RX9, .code yX9_inside cX9_inside 4 (some .int)] ++ wsX90)
def wsX9_gnaw : List Cond := .code yX9_gnaw cX9_gnaw 3 none :: ([.fieldLink RX9 114 "ShipFromItselfModel" "many" "I", .fieldLink RX9 40 "ShipFromItselfModel" "at" "[I", .fieldLink RX9 46 "ShipFromItselfModel" "worms" "[I", .methodLink RX9 152 yX9_comeDown, .instanceMethod yX9_comeDown, .selects RX9 yX9_comeDown yX9_comeDown, .initialized RX9, .code yX9_comeDown cX9_comeDown 5 none, .fieldLink RX9 31 "ShipFromItselfModel" "rest" "[I", .methodLink RX9 134 yX9_inside, .instanceMethod yX9_inside, .selects RX9 yX9_inside yX9_inside, .code yX9_inside cX9_inside 4 (some .int)] ++ wsX90)
def wsX9_keepAct : List Cond := .code yX9_keepAct cX9_keepAct 3 none :: ([.fieldLink RX9 156 "ShipFromItselfModel" "next" "I", .fieldLink RX9 49 "ShipFromItselfModel" "row" "[I", .fieldLink RX9 40 "ShipFromItselfModel" "at" "[I", .fieldLink RX9 43 "ShipFromItselfModel" "size" "[I", .fieldLink RX9 46 "ShipFromItselfModel" "worms" "[I", .fieldLink RX9 120 "ShipFromItselfModel" "water" "I", .fieldLink RX9 123 "ShipFromItselfModel" "isSunk" "Z", .fieldLink RX9 127 "ShipFromItselfModel" "acts" "I"] ++ wsX90)
def wsX9_take_r1 : List Cond := [Cond.fieldLink RX9 123 "ShipFromItselfModel" "isSunk" "Z", Cond.fieldLink RX9 40 "ShipFromItselfModel" "at" "[I", Cond.methodLink RX9 130 yX9_isPlace, Cond.instanceMethod yX9_isPlace, Cond.selects RX9 yX9_isPlace yX9_isPlace, Cond.initialized RX9, Cond.code yX9_isPlace cX9_isPlace 2 (some .boolean), Cond.fieldLink RX9 114 "ShipFromItselfModel" "many" "I", Cond.methodLink RX9 78 yX9_in, Cond.static yX9_in, Cond.code yX9_in cX9_in 6 (some .boolean), Cond.methodLink RX9 141 yX9_canTake, Cond.instanceMethod yX9_canTake, Cond.selects RX9 yX9_canTake yX9_canTake, Cond.code yX9_canTake cX9_canTake 3 (some .boolean), Cond.methodLink RX9 134 yX9_inside, Cond.instanceMethod yX9_inside, Cond.selects RX9 yX9_inside yX9_inside, Cond.code yX9_inside cX9_inside 4 (some .int), Cond.methodLink RX9 137 yX9_isBorne, Cond.instanceMethod yX9_isBorne, Cond.selects RX9 yX9_isBorne yX9_isBorne, Cond.code yX9_isBorne cX9_isBorne 5 (some .boolean), Cond.fieldLink RX9 31 "ShipFromItselfModel" "rest" "[I"]
def wsX9_take_r2 : List Cond := [Cond.methodLink RX9 159 yX9_keepAct, Cond.instanceMethod yX9_keepAct, Cond.selects RX9 yX9_keepAct yX9_keepAct, Cond.code yX9_keepAct cX9_keepAct 3 none, Cond.fieldLink RX9 156 "ShipFromItselfModel" "next" "I", Cond.fieldLink RX9 49 "ShipFromItselfModel" "row" "[I", Cond.fieldLink RX9 43 "ShipFromItselfModel" "size" "[I", Cond.fieldLink RX9 46 "ShipFromItselfModel" "worms" "[I", Cond.fieldLink RX9 120 "ShipFromItselfModel" "water" "I", Cond.fieldLink RX9 127 "ShipFromItselfModel" "acts" "I"]
def wsX9_take : List Cond := .code yX9_take cX9_take 3 (some .int) :: ((wsX9_take_r1 ++ wsX9_take_r2) ++ wsX90)
def wsX9_put_r1 : List Cond := [Cond.fieldLink RX9 123 "ShipFromItselfModel" "isSunk" "Z", Cond.fieldLink RX9 40 "ShipFromItselfModel" "at" "[I", Cond.fieldLink RX9 43 "ShipFromItselfModel" "size" "[I", Cond.fieldLink RX9 25 "ShipFromItselfModel" "wide" "[I", Cond.methodLink RX9 130 yX9_isPlace, Cond.instanceMethod yX9_isPlace, Cond.selects RX9 yX9_isPlace yX9_isPlace, Cond.initialized RX9, Cond.code yX9_isPlace cX9_isPlace 2 (some .boolean), Cond.fieldLink RX9 114 "ShipFromItselfModel" "many" "I", Cond.methodLink RX9 78 yX9_in, Cond.static yX9_in, Cond.code yX9_in cX9_in 6 (some .boolean), Cond.methodLink RX9 144 yX9_canPut, Cond.instanceMethod yX9_canPut, Cond.selects RX9 yX9_canPut yX9_canPut, Cond.code yX9_canPut cX9_canPut 4 (some .boolean), Cond.fieldLink RX9 31 "ShipFromItselfModel" "rest" "[I", Cond.methodLink RX9 134 yX9_inside, Cond.instanceMethod yX9_inside, Cond.selects RX9 yX9_inside yX9_inside, Cond.code yX9_inside cX9_inside 4 (some .int), Cond.methodLink RX9 159 yX9_keepAct, Cond.instanceMethod yX9_keepAct]
def wsX9_put_r2 : List Cond := [Cond.selects RX9 yX9_keepAct yX9_keepAct, Cond.code yX9_keepAct cX9_keepAct 3 none, Cond.fieldLink RX9 156 "ShipFromItselfModel" "next" "I", Cond.fieldLink RX9 49 "ShipFromItselfModel" "row" "[I", Cond.fieldLink RX9 46 "ShipFromItselfModel" "worms" "[I", Cond.fieldLink RX9 120 "ShipFromItselfModel" "water" "I", Cond.fieldLink RX9 127 "ShipFromItselfModel" "acts" "I"]
def wsX9_put : List Cond := .code yX9_put cX9_put 3 (some .int) :: ((wsX9_put_r1 ++ wsX9_put_r2) ++ wsX90)
def wsX9_move_r1 : List Cond := [Cond.fieldLink RX9 123 "ShipFromItselfModel" "isSunk" "Z", Cond.fieldLink RX9 43 "ShipFromItselfModel" "size" "[I", Cond.methodLink RX9 130 yX9_isPlace, Cond.instanceMethod yX9_isPlace, Cond.selects RX9 yX9_isPlace yX9_isPlace, Cond.initialized RX9, Cond.code yX9_isPlace cX9_isPlace 2 (some .boolean), Cond.fieldLink RX9 114 "ShipFromItselfModel" "many" "I", Cond.methodLink RX9 78 yX9_in, Cond.static yX9_in, Cond.code yX9_in cX9_in 6 (some .boolean), Cond.methodLink RX9 162 yX9_copy, Cond.instanceMethod yX9_copy, Cond.selects RX9 yX9_copy yX9_copy, Cond.code yX9_copy cX9_copy 4 none, Cond.fieldLink RX9 40 "ShipFromItselfModel" "at" "[I", Cond.fieldLink RX9 46 "ShipFromItselfModel" "worms" "[I", Cond.methodLink RX9 166 yX9_goes, Cond.instanceMethod yX9_goes, Cond.selects RX9 yX9_goes yX9_goes, Cond.code yX9_goes cX9_goes 5 (some .boolean), Cond.fieldLink RX9 25 "ShipFromItselfModel" "wide" "[I", Cond.methodLink RX9 141 yX9_canTake, Cond.instanceMethod yX9_canTake]
def wsX9_move_r2 : List Cond := [Cond.selects RX9 yX9_canTake yX9_canTake, Cond.code yX9_canTake cX9_canTake 3 (some .boolean), Cond.methodLink RX9 134 yX9_inside, Cond.instanceMethod yX9_inside, Cond.selects RX9 yX9_inside yX9_inside, Cond.code yX9_inside cX9_inside 4 (some .int), Cond.methodLink RX9 137 yX9_isBorne, Cond.instanceMethod yX9_isBorne, Cond.selects RX9 yX9_isBorne yX9_isBorne, Cond.code yX9_isBorne cX9_isBorne 5 (some .boolean), Cond.fieldLink RX9 31 "ShipFromItselfModel" "rest" "[I", Cond.methodLink RX9 144 yX9_canPut, Cond.instanceMethod yX9_canPut, Cond.selects RX9 yX9_canPut yX9_canPut, Cond.code yX9_canPut cX9_canPut 4 (some .boolean), Cond.methodLink RX9 159 yX9_keepAct, Cond.instanceMethod yX9_keepAct, Cond.selects RX9 yX9_keepAct yX9_keepAct, Cond.code yX9_keepAct cX9_keepAct 3 none, Cond.fieldLink RX9 156 "ShipFromItselfModel" "next" "I", Cond.fieldLink RX9 49 "ShipFromItselfModel" "row" "[I", Cond.fieldLink RX9 120 "ShipFromItselfModel" "water" "I", Cond.fieldLink RX9 127 "ShipFromItselfModel" "acts" "I"]
def wsX9_move : List Cond := .code yX9_move cX9_move 3 (some .int) :: ((wsX9_move_r1 ++ wsX9_move_r2) ++ wsX90)
def wsX9_watch_r1 : List Cond := [Cond.fieldLink RX9 123 "ShipFromItselfModel" "isSunk" "Z", Cond.fieldLink RX9 120 "ShipFromItselfModel" "water" "I", Cond.fieldLink RX9 117 "ShipFromItselfModel" "pumps" "I", Cond.fieldLink RX9 72 "ShipFromItselfModel" "bears" "I", Cond.methodLink RX9 159 yX9_keepAct, Cond.instanceMethod yX9_keepAct, Cond.selects RX9 yX9_keepAct yX9_keepAct, Cond.initialized RX9, Cond.code yX9_keepAct cX9_keepAct 3 none, Cond.fieldLink RX9 156 "ShipFromItselfModel" "next" "I", Cond.fieldLink RX9 49 "ShipFromItselfModel" "row" "[I", Cond.fieldLink RX9 40 "ShipFromItselfModel" "at" "[I", Cond.fieldLink RX9 43 "ShipFromItselfModel" "size" "[I", Cond.fieldLink RX9 46 "ShipFromItselfModel" "worms" "[I", Cond.fieldLink RX9 127 "ShipFromItselfModel" "acts" "I", Cond.methodLink RX9 169 yX9_leakOf, Cond.instanceMethod yX9_leakOf, Cond.selects RX9 yX9_leakOf yX9_leakOf, Cond.code yX9_leakOf cX9_leakOf 5 (some .int), Cond.fieldLink RX9 114 "ShipFromItselfModel" "many" "I", Cond.fieldLink RX9 28 "ShipFromItselfModel" "lets" "[I", Cond.methodLink RX9 148 yX9_openSet, Cond.instanceMethod yX9_openSet, Cond.selects RX9 yX9_openSet yX9_openSet]
def wsX9_watch_r2 : List Cond := [Cond.code yX9_openSet cX9_openSet 4 (some .int), Cond.methodLink RX9 134 yX9_inside, Cond.instanceMethod yX9_inside, Cond.selects RX9 yX9_inside yX9_inside, Cond.code yX9_inside cX9_inside 4 (some .int), Cond.methodLink RX9 172 yX9_gnaw, Cond.instanceMethod yX9_gnaw, Cond.selects RX9 yX9_gnaw yX9_gnaw, Cond.code yX9_gnaw cX9_gnaw 3 none, Cond.methodLink RX9 152 yX9_comeDown, Cond.instanceMethod yX9_comeDown, Cond.selects RX9 yX9_comeDown yX9_comeDown, Cond.code yX9_comeDown cX9_comeDown 5 none, Cond.fieldLink RX9 31 "ShipFromItselfModel" "rest" "[I"]
def wsX9_watch : List Cond := .code yX9_watch cX9_watch 1 (some .int) :: ((wsX9_watch_r1 ++ wsX9_watch_r2) ++ wsX90)
def wsX9_back : List Cond := .code yX9_back cX9_back 3 (some .int) :: ([.fieldLink RX9 127 "ShipFromItselfModel" "acts" "I", .fieldLink RX9 156 "ShipFromItselfModel" "next" "I", .fieldLink RX9 40 "ShipFromItselfModel" "at" "[I", .fieldLink RX9 49 "ShipFromItselfModel" "row" "[I", .fieldLink RX9 43 "ShipFromItselfModel" "size" "[I", .fieldLink RX9 46 "ShipFromItselfModel" "worms" "[I", .fieldLink RX9 120 "ShipFromItselfModel" "water" "I", .fieldLink RX9 123 "ShipFromItselfModel" "isSunk" "Z"] ++ wsX90)
def wsX9_leak : List Cond := .code yX9_leak cX9_leak 1 (some .int) :: ([.methodLink RX9 169 yX9_leakOf, .instanceMethod yX9_leakOf, .selects RX9 yX9_leakOf yX9_leakOf, .initialized RX9, .code yX9_leakOf cX9_leakOf 5 (some .int), .fieldLink RX9 114 "ShipFromItselfModel" "many" "I", .fieldLink RX9 28 "ShipFromItselfModel" "lets" "[I", .methodLink RX9 148 yX9_openSet, .instanceMethod yX9_openSet, .selects RX9 yX9_openSet yX9_openSet, .code yX9_openSet cX9_openSet 4 (some .int), .methodLink RX9 134 yX9_inside, .instanceMethod yX9_inside, .selects RX9 yX9_inside yX9_inside, .code yX9_inside cX9_inside 4 (some .int), .fieldLink RX9 40 "ShipFromItselfModel" "at" "[I"] ++ wsX90)
def wsX9_floatsOf_r1 : List Cond := [Cond.fieldLink RX9 123 "ShipFromItselfModel" "isSunk" "Z", Cond.fieldLink RX9 120 "ShipFromItselfModel" "water" "I", Cond.fieldLink RX9 117 "ShipFromItselfModel" "pumps" "I", Cond.fieldLink RX9 72 "ShipFromItselfModel" "bears" "I", Cond.methodLink RX9 162 yX9_copy, Cond.instanceMethod yX9_copy, Cond.selects RX9 yX9_copy yX9_copy, Cond.initialized RX9, Cond.code yX9_copy cX9_copy 4 none, Cond.fieldLink RX9 40 "ShipFromItselfModel" "at" "[I", Cond.fieldLink RX9 43 "ShipFromItselfModel" "size" "[I", Cond.fieldLink RX9 46 "ShipFromItselfModel" "worms" "[I", Cond.methodLink RX9 169 yX9_leakOf, Cond.instanceMethod yX9_leakOf, Cond.selects RX9 yX9_leakOf yX9_leakOf, Cond.code yX9_leakOf cX9_leakOf 5 (some .int), Cond.fieldLink RX9 114 "ShipFromItselfModel" "many" "I", Cond.fieldLink RX9 28 "ShipFromItselfModel" "lets" "[I", Cond.methodLink RX9 148 yX9_openSet, Cond.instanceMethod yX9_openSet, Cond.selects RX9 yX9_openSet yX9_openSet, Cond.code yX9_openSet cX9_openSet 4 (some .int), Cond.methodLink RX9 134 yX9_inside, Cond.instanceMethod yX9_inside]
def wsX9_floatsOf_r2 : List Cond := [Cond.selects RX9 yX9_inside yX9_inside, Cond.code yX9_inside cX9_inside 4 (some .int), Cond.methodLink RX9 172 yX9_gnaw, Cond.instanceMethod yX9_gnaw, Cond.selects RX9 yX9_gnaw yX9_gnaw, Cond.code yX9_gnaw cX9_gnaw 3 none, Cond.methodLink RX9 152 yX9_comeDown, Cond.instanceMethod yX9_comeDown, Cond.selects RX9 yX9_comeDown yX9_comeDown, Cond.code yX9_comeDown cX9_comeDown 5 none, Cond.fieldLink RX9 31 "ShipFromItselfModel" "rest" "[I"]
def wsX9_floatsOf : List Cond := .code yX9_floatsOf cX9_floatsOf 5 (some .int) :: ((wsX9_floatsOf_r1 ++ wsX9_floatsOf_r2) ++ wsX90)
def wsX9_floats_r1 : List Cond := [Cond.methodLink RX9 175 yX9_floatsOf, Cond.instanceMethod yX9_floatsOf, Cond.selects RX9 yX9_floatsOf yX9_floatsOf, Cond.initialized RX9, Cond.code yX9_floatsOf cX9_floatsOf 5 (some .int), Cond.fieldLink RX9 123 "ShipFromItselfModel" "isSunk" "Z", Cond.fieldLink RX9 120 "ShipFromItselfModel" "water" "I", Cond.fieldLink RX9 117 "ShipFromItselfModel" "pumps" "I", Cond.fieldLink RX9 72 "ShipFromItselfModel" "bears" "I", Cond.methodLink RX9 162 yX9_copy, Cond.instanceMethod yX9_copy, Cond.selects RX9 yX9_copy yX9_copy, Cond.code yX9_copy cX9_copy 4 none, Cond.fieldLink RX9 40 "ShipFromItselfModel" "at" "[I", Cond.fieldLink RX9 43 "ShipFromItselfModel" "size" "[I", Cond.fieldLink RX9 46 "ShipFromItselfModel" "worms" "[I", Cond.methodLink RX9 169 yX9_leakOf, Cond.instanceMethod yX9_leakOf, Cond.selects RX9 yX9_leakOf yX9_leakOf, Cond.code yX9_leakOf cX9_leakOf 5 (some .int), Cond.fieldLink RX9 114 "ShipFromItselfModel" "many" "I", Cond.fieldLink RX9 28 "ShipFromItselfModel" "lets" "[I", Cond.methodLink RX9 148 yX9_openSet, Cond.instanceMethod yX9_openSet]
def wsX9_floats_r2 : List Cond := [Cond.selects RX9 yX9_openSet yX9_openSet, Cond.code yX9_openSet cX9_openSet 4 (some .int), Cond.methodLink RX9 134 yX9_inside, Cond.instanceMethod yX9_inside, Cond.selects RX9 yX9_inside yX9_inside, Cond.code yX9_inside cX9_inside 4 (some .int), Cond.methodLink RX9 172 yX9_gnaw, Cond.instanceMethod yX9_gnaw, Cond.selects RX9 yX9_gnaw yX9_gnaw, Cond.code yX9_gnaw cX9_gnaw 3 none, Cond.methodLink RX9 152 yX9_comeDown, Cond.instanceMethod yX9_comeDown, Cond.selects RX9 yX9_comeDown yX9_comeDown, Cond.code yX9_comeDown cX9_comeDown 5 none, Cond.fieldLink RX9 31 "ShipFromItselfModel" "rest" "[I"]
def wsX9_floats : List Cond := .code yX9_floats cX9_floats 1 (some .int) :: ((wsX9_floats_r1 ++ wsX9_floats_r2) ++ wsX90)
def wsX9_harm_r1 : List Cond := [Cond.fieldLink RX9 40 "ShipFromItselfModel" "at" "[I", Cond.methodLink RX9 130 yX9_isPlace, Cond.instanceMethod yX9_isPlace, Cond.selects RX9 yX9_isPlace yX9_isPlace, Cond.initialized RX9, Cond.code yX9_isPlace cX9_isPlace 2 (some .boolean), Cond.fieldLink RX9 114 "ShipFromItselfModel" "many" "I", Cond.methodLink RX9 78 yX9_in, Cond.static yX9_in, Cond.code yX9_in cX9_in 6 (some .boolean), Cond.methodLink RX9 134 yX9_inside, Cond.instanceMethod yX9_inside, Cond.selects RX9 yX9_inside yX9_inside, Cond.code yX9_inside cX9_inside 4 (some .int), Cond.methodLink RX9 162 yX9_copy, Cond.instanceMethod yX9_copy, Cond.selects RX9 yX9_copy yX9_copy, Cond.code yX9_copy cX9_copy 4 none, Cond.fieldLink RX9 43 "ShipFromItselfModel" "size" "[I", Cond.fieldLink RX9 46 "ShipFromItselfModel" "worms" "[I", Cond.methodLink RX9 152 yX9_comeDown, Cond.instanceMethod yX9_comeDown, Cond.selects RX9 yX9_comeDown yX9_comeDown, Cond.code yX9_comeDown cX9_comeDown 5 none]
def wsX9_harm_r2 : List Cond := [Cond.fieldLink RX9 31 "ShipFromItselfModel" "rest" "[I", Cond.methodLink RX9 169 yX9_leakOf, Cond.instanceMethod yX9_leakOf, Cond.selects RX9 yX9_leakOf yX9_leakOf, Cond.code yX9_leakOf cX9_leakOf 5 (some .int), Cond.fieldLink RX9 28 "ShipFromItselfModel" "lets" "[I", Cond.methodLink RX9 148 yX9_openSet, Cond.instanceMethod yX9_openSet, Cond.selects RX9 yX9_openSet yX9_openSet, Cond.code yX9_openSet cX9_openSet 4 (some .int)]
def wsX9_harm : List Cond := .code yX9_harm cX9_harm 3 (some .int) :: ((wsX9_harm_r1 ++ wsX9_harm_r2) ++ wsX90)
def wsX9_may_r1 : List Cond := [Cond.fieldLink RX9 123 "ShipFromItselfModel" "isSunk" "Z", Cond.methodLink RX9 130 yX9_isPlace, Cond.instanceMethod yX9_isPlace, Cond.selects RX9 yX9_isPlace yX9_isPlace, Cond.initialized RX9, Cond.code yX9_isPlace cX9_isPlace 2 (some .boolean), Cond.fieldLink RX9 114 "ShipFromItselfModel" "many" "I", Cond.methodLink RX9 78 yX9_in, Cond.static yX9_in, Cond.code yX9_in cX9_in 6 (some .boolean), Cond.methodLink RX9 162 yX9_copy, Cond.instanceMethod yX9_copy, Cond.selects RX9 yX9_copy yX9_copy, Cond.code yX9_copy cX9_copy 4 none, Cond.fieldLink RX9 40 "ShipFromItselfModel" "at" "[I", Cond.fieldLink RX9 43 "ShipFromItselfModel" "size" "[I", Cond.fieldLink RX9 46 "ShipFromItselfModel" "worms" "[I", Cond.methodLink RX9 166 yX9_goes, Cond.instanceMethod yX9_goes, Cond.selects RX9 yX9_goes yX9_goes, Cond.code yX9_goes cX9_goes 5 (some .boolean), Cond.fieldLink RX9 25 "ShipFromItselfModel" "wide" "[I", Cond.methodLink RX9 141 yX9_canTake, Cond.instanceMethod yX9_canTake]
def wsX9_may_r2 : List Cond := [Cond.selects RX9 yX9_canTake yX9_canTake, Cond.code yX9_canTake cX9_canTake 3 (some .boolean), Cond.methodLink RX9 134 yX9_inside, Cond.instanceMethod yX9_inside, Cond.selects RX9 yX9_inside yX9_inside, Cond.code yX9_inside cX9_inside 4 (some .int), Cond.methodLink RX9 137 yX9_isBorne, Cond.instanceMethod yX9_isBorne, Cond.selects RX9 yX9_isBorne yX9_isBorne, Cond.code yX9_isBorne cX9_isBorne 5 (some .boolean), Cond.fieldLink RX9 31 "ShipFromItselfModel" "rest" "[I", Cond.methodLink RX9 144 yX9_canPut, Cond.instanceMethod yX9_canPut, Cond.selects RX9 yX9_canPut yX9_canPut, Cond.code yX9_canPut cX9_canPut 4 (some .boolean)]
def wsX9_may : List Cond := .code yX9_may cX9_may 3 (some .int) :: ((wsX9_may_r1 ++ wsX9_may_r2) ++ wsX90)
def wsX9_laySecond_r1 : List Cond := [Cond.fieldLink RX9 114 "ShipFromItselfModel" "many" "I", Cond.fieldLink RX9 181 "ShipFromItselfModel" "foundLeak" "I", Cond.fieldLink RX9 178 "ShipFromItselfModel" "foundMany" "I", Cond.fieldLink RX9 52 "ShipFromItselfModel" "found" "[I", Cond.methodLink RX9 162 yX9_copy, Cond.instanceMethod yX9_copy, Cond.selects RX9 yX9_copy yX9_copy, Cond.initialized RX9, Cond.code yX9_copy cX9_copy 4 none, Cond.fieldLink RX9 40 "ShipFromItselfModel" "at" "[I", Cond.fieldLink RX9 43 "ShipFromItselfModel" "size" "[I", Cond.fieldLink RX9 46 "ShipFromItselfModel" "worms" "[I", Cond.methodLink RX9 166 yX9_goes, Cond.instanceMethod yX9_goes, Cond.selects RX9 yX9_goes yX9_goes, Cond.code yX9_goes cX9_goes 5 (some .boolean), Cond.fieldLink RX9 25 "ShipFromItselfModel" "wide" "[I", Cond.methodLink RX9 141 yX9_canTake, Cond.instanceMethod yX9_canTake, Cond.selects RX9 yX9_canTake yX9_canTake, Cond.code yX9_canTake cX9_canTake 3 (some .boolean), Cond.methodLink RX9 134 yX9_inside, Cond.instanceMethod yX9_inside, Cond.selects RX9 yX9_inside yX9_inside]
def wsX9_laySecond_r2 : List Cond := [Cond.code yX9_inside cX9_inside 4 (some .int), Cond.methodLink RX9 137 yX9_isBorne, Cond.instanceMethod yX9_isBorne, Cond.selects RX9 yX9_isBorne yX9_isBorne, Cond.code yX9_isBorne cX9_isBorne 5 (some .boolean), Cond.fieldLink RX9 31 "ShipFromItselfModel" "rest" "[I", Cond.methodLink RX9 144 yX9_canPut, Cond.instanceMethod yX9_canPut, Cond.selects RX9 yX9_canPut yX9_canPut, Cond.code yX9_canPut cX9_canPut 4 (some .boolean), Cond.methodLink RX9 169 yX9_leakOf, Cond.instanceMethod yX9_leakOf, Cond.selects RX9 yX9_leakOf yX9_leakOf, Cond.code yX9_leakOf cX9_leakOf 5 (some .int), Cond.fieldLink RX9 28 "ShipFromItselfModel" "lets" "[I", Cond.methodLink RX9 148 yX9_openSet, Cond.instanceMethod yX9_openSet, Cond.selects RX9 yX9_openSet yX9_openSet, Cond.code yX9_openSet cX9_openSet 4 (some .int)]
def wsX9_laySecond : List Cond := .code yX9_laySecond cX9_laySecond 3 none :: ((wsX9_laySecond_r1 ++ wsX9_laySecond_r2) ++ wsX90)
def wsX9_layBest_r1 : List Cond := [Cond.fieldLink RX9 178 "ShipFromItselfModel" "foundMany" "I", Cond.fieldLink RX9 181 "ShipFromItselfModel" "foundLeak" "I", Cond.fieldLink RX9 114 "ShipFromItselfModel" "many" "I", Cond.fieldLink RX9 52 "ShipFromItselfModel" "found" "[I", Cond.methodLink RX9 169 yX9_leakOf, Cond.instanceMethod yX9_leakOf, Cond.selects RX9 yX9_leakOf yX9_leakOf, Cond.initialized RX9, Cond.code yX9_leakOf cX9_leakOf 5 (some .int), Cond.fieldLink RX9 28 "ShipFromItselfModel" "lets" "[I", Cond.methodLink RX9 148 yX9_openSet, Cond.instanceMethod yX9_openSet, Cond.selects RX9 yX9_openSet yX9_openSet, Cond.code yX9_openSet cX9_openSet 4 (some .int), Cond.methodLink RX9 134 yX9_inside, Cond.instanceMethod yX9_inside, Cond.selects RX9 yX9_inside yX9_inside, Cond.code yX9_inside cX9_inside 4 (some .int), Cond.fieldLink RX9 40 "ShipFromItselfModel" "at" "[I", Cond.methodLink RX9 162 yX9_copy, Cond.instanceMethod yX9_copy, Cond.selects RX9 yX9_copy yX9_copy, Cond.code yX9_copy cX9_copy 4 none, Cond.fieldLink RX9 43 "ShipFromItselfModel" "size" "[I"]
def wsX9_layBest_r2 : List Cond := [Cond.fieldLink RX9 46 "ShipFromItselfModel" "worms" "[I", Cond.methodLink RX9 166 yX9_goes, Cond.instanceMethod yX9_goes, Cond.selects RX9 yX9_goes yX9_goes, Cond.code yX9_goes cX9_goes 5 (some .boolean), Cond.fieldLink RX9 25 "ShipFromItselfModel" "wide" "[I", Cond.methodLink RX9 141 yX9_canTake, Cond.instanceMethod yX9_canTake, Cond.selects RX9 yX9_canTake yX9_canTake, Cond.code yX9_canTake cX9_canTake 3 (some .boolean), Cond.methodLink RX9 137 yX9_isBorne, Cond.instanceMethod yX9_isBorne, Cond.selects RX9 yX9_isBorne yX9_isBorne, Cond.code yX9_isBorne cX9_isBorne 5 (some .boolean), Cond.fieldLink RX9 31 "ShipFromItselfModel" "rest" "[I", Cond.methodLink RX9 144 yX9_canPut, Cond.instanceMethod yX9_canPut, Cond.selects RX9 yX9_canPut yX9_canPut, Cond.code yX9_canPut cX9_canPut 4 (some .boolean), Cond.methodLink RX9 184 yX9_laySecond, Cond.instanceMethod yX9_laySecond, Cond.selects RX9 yX9_laySecond yX9_laySecond, Cond.code yX9_laySecond cX9_laySecond 3 none]
def wsX9_layBest : List Cond := .code yX9_layBest cX9_layBest 3 none :: ((wsX9_layBest_r1 ++ wsX9_layBest_r2) ++ wsX90)
def wsX9_best_r1 : List Cond := [Cond.constantLong RX9 187 (2), Cond.fieldLink RX9 123 "ShipFromItselfModel" "isSunk" "Z", Cond.fieldLink RX9 181 "ShipFromItselfModel" "foundLeak" "I", Cond.methodLink RX9 78 yX9_in, Cond.static yX9_in, Cond.initialized RX9, Cond.code yX9_in cX9_in 6 (some .boolean), Cond.methodLink RX9 189 yX9_layBest, Cond.instanceMethod yX9_layBest, Cond.selects RX9 yX9_layBest yX9_layBest, Cond.code yX9_layBest cX9_layBest 3 none, Cond.fieldLink RX9 178 "ShipFromItselfModel" "foundMany" "I", Cond.fieldLink RX9 114 "ShipFromItselfModel" "many" "I", Cond.fieldLink RX9 52 "ShipFromItselfModel" "found" "[I", Cond.methodLink RX9 169 yX9_leakOf, Cond.instanceMethod yX9_leakOf, Cond.selects RX9 yX9_leakOf yX9_leakOf, Cond.code yX9_leakOf cX9_leakOf 5 (some .int), Cond.fieldLink RX9 28 "ShipFromItselfModel" "lets" "[I", Cond.methodLink RX9 148 yX9_openSet, Cond.instanceMethod yX9_openSet, Cond.selects RX9 yX9_openSet yX9_openSet, Cond.code yX9_openSet cX9_openSet 4 (some .int), Cond.methodLink RX9 134 yX9_inside]
def wsX9_best_r2 : List Cond := [Cond.instanceMethod yX9_inside, Cond.selects RX9 yX9_inside yX9_inside, Cond.code yX9_inside cX9_inside 4 (some .int), Cond.fieldLink RX9 40 "ShipFromItselfModel" "at" "[I", Cond.methodLink RX9 162 yX9_copy, Cond.instanceMethod yX9_copy, Cond.selects RX9 yX9_copy yX9_copy, Cond.code yX9_copy cX9_copy 4 none, Cond.fieldLink RX9 43 "ShipFromItselfModel" "size" "[I", Cond.fieldLink RX9 46 "ShipFromItselfModel" "worms" "[I", Cond.methodLink RX9 166 yX9_goes, Cond.instanceMethod yX9_goes, Cond.selects RX9 yX9_goes yX9_goes, Cond.code yX9_goes cX9_goes 5 (some .boolean), Cond.fieldLink RX9 25 "ShipFromItselfModel" "wide" "[I", Cond.methodLink RX9 141 yX9_canTake, Cond.instanceMethod yX9_canTake, Cond.selects RX9 yX9_canTake yX9_canTake, Cond.code yX9_canTake cX9_canTake 3 (some .boolean), Cond.methodLink RX9 137 yX9_isBorne, Cond.instanceMethod yX9_isBorne, Cond.selects RX9 yX9_isBorne yX9_isBorne, Cond.code yX9_isBorne cX9_isBorne 5 (some .boolean), Cond.fieldLink RX9 31 "ShipFromItselfModel" "rest" "[I"]
def wsX9_best_r3 : List Cond := [Cond.methodLink RX9 144 yX9_canPut, Cond.instanceMethod yX9_canPut, Cond.selects RX9 yX9_canPut yX9_canPut, Cond.code yX9_canPut cX9_canPut 4 (some .boolean), Cond.methodLink RX9 184 yX9_laySecond, Cond.instanceMethod yX9_laySecond, Cond.selects RX9 yX9_laySecond yX9_laySecond, Cond.code yX9_laySecond cX9_laySecond 3 none]
def wsX9_best : List Cond := .code yX9_best cX9_best 2 (some .int) :: ((wsX9_best_r1 ++ (wsX9_best_r2 ++ wsX9_best_r3)) ++ wsX90)
def wsX9_bestAt_r1 : List Cond := [Cond.constantLong RX9 187 (2), Cond.fieldLink RX9 123 "ShipFromItselfModel" "isSunk" "Z", Cond.fieldLink RX9 178 "ShipFromItselfModel" "foundMany" "I", Cond.fieldLink RX9 52 "ShipFromItselfModel" "found" "[I", Cond.methodLink RX9 78 yX9_in, Cond.static yX9_in, Cond.initialized RX9, Cond.code yX9_in cX9_in 6 (some .boolean), Cond.methodLink RX9 189 yX9_layBest, Cond.instanceMethod yX9_layBest, Cond.selects RX9 yX9_layBest yX9_layBest, Cond.code yX9_layBest cX9_layBest 3 none, Cond.fieldLink RX9 181 "ShipFromItselfModel" "foundLeak" "I", Cond.fieldLink RX9 114 "ShipFromItselfModel" "many" "I", Cond.methodLink RX9 169 yX9_leakOf, Cond.instanceMethod yX9_leakOf, Cond.selects RX9 yX9_leakOf yX9_leakOf, Cond.code yX9_leakOf cX9_leakOf 5 (some .int), Cond.fieldLink RX9 28 "ShipFromItselfModel" "lets" "[I", Cond.methodLink RX9 148 yX9_openSet, Cond.instanceMethod yX9_openSet, Cond.selects RX9 yX9_openSet yX9_openSet, Cond.code yX9_openSet cX9_openSet 4 (some .int), Cond.methodLink RX9 134 yX9_inside]
def wsX9_bestAt_r2 : List Cond := [Cond.instanceMethod yX9_inside, Cond.selects RX9 yX9_inside yX9_inside, Cond.code yX9_inside cX9_inside 4 (some .int), Cond.fieldLink RX9 40 "ShipFromItselfModel" "at" "[I", Cond.methodLink RX9 162 yX9_copy, Cond.instanceMethod yX9_copy, Cond.selects RX9 yX9_copy yX9_copy, Cond.code yX9_copy cX9_copy 4 none, Cond.fieldLink RX9 43 "ShipFromItselfModel" "size" "[I", Cond.fieldLink RX9 46 "ShipFromItselfModel" "worms" "[I", Cond.methodLink RX9 166 yX9_goes, Cond.instanceMethod yX9_goes, Cond.selects RX9 yX9_goes yX9_goes, Cond.code yX9_goes cX9_goes 5 (some .boolean), Cond.fieldLink RX9 25 "ShipFromItselfModel" "wide" "[I", Cond.methodLink RX9 141 yX9_canTake, Cond.instanceMethod yX9_canTake, Cond.selects RX9 yX9_canTake yX9_canTake, Cond.code yX9_canTake cX9_canTake 3 (some .boolean), Cond.methodLink RX9 137 yX9_isBorne, Cond.instanceMethod yX9_isBorne, Cond.selects RX9 yX9_isBorne yX9_isBorne, Cond.code yX9_isBorne cX9_isBorne 5 (some .boolean), Cond.fieldLink RX9 31 "ShipFromItselfModel" "rest" "[I"]
def wsX9_bestAt_r3 : List Cond := [Cond.methodLink RX9 144 yX9_canPut, Cond.instanceMethod yX9_canPut, Cond.selects RX9 yX9_canPut yX9_canPut, Cond.code yX9_canPut cX9_canPut 4 (some .boolean), Cond.methodLink RX9 184 yX9_laySecond, Cond.instanceMethod yX9_laySecond, Cond.selects RX9 yX9_laySecond yX9_laySecond, Cond.code yX9_laySecond cX9_laySecond 3 none]
def wsX9_bestAt : List Cond := .code yX9_bestAt cX9_bestAt 3 (some .int) :: ((wsX9_bestAt_r1 ++ (wsX9_bestAt_r2 ++ wsX9_bestAt_r3)) ++ wsX90)
def wsX9_isPort_r1 : List Cond := [Cond.fieldLink RX9 114 "ShipFromItselfModel" "many" "I", Cond.fieldLink RX9 52 "ShipFromItselfModel" "found" "[I", Cond.methodLink RX9 162 yX9_copy, Cond.instanceMethod yX9_copy, Cond.selects RX9 yX9_copy yX9_copy, Cond.initialized RX9, Cond.code yX9_copy cX9_copy 4 none, Cond.fieldLink RX9 40 "ShipFromItselfModel" "at" "[I", Cond.fieldLink RX9 43 "ShipFromItselfModel" "size" "[I", Cond.fieldLink RX9 46 "ShipFromItselfModel" "worms" "[I", Cond.methodLink RX9 166 yX9_goes, Cond.instanceMethod yX9_goes, Cond.selects RX9 yX9_goes yX9_goes, Cond.code yX9_goes cX9_goes 5 (some .boolean), Cond.fieldLink RX9 25 "ShipFromItselfModel" "wide" "[I", Cond.methodLink RX9 141 yX9_canTake, Cond.instanceMethod yX9_canTake, Cond.selects RX9 yX9_canTake yX9_canTake, Cond.code yX9_canTake cX9_canTake 3 (some .boolean), Cond.methodLink RX9 134 yX9_inside, Cond.instanceMethod yX9_inside, Cond.selects RX9 yX9_inside yX9_inside, Cond.code yX9_inside cX9_inside 4 (some .int), Cond.methodLink RX9 137 yX9_isBorne]
def wsX9_isPort_r2 : List Cond := [Cond.instanceMethod yX9_isBorne, Cond.selects RX9 yX9_isBorne yX9_isBorne, Cond.code yX9_isBorne cX9_isBorne 5 (some .boolean), Cond.fieldLink RX9 31 "ShipFromItselfModel" "rest" "[I", Cond.methodLink RX9 144 yX9_canPut, Cond.instanceMethod yX9_canPut, Cond.selects RX9 yX9_canPut yX9_canPut, Cond.code yX9_canPut cX9_canPut 4 (some .boolean), Cond.methodLink RX9 175 yX9_floatsOf, Cond.instanceMethod yX9_floatsOf, Cond.selects RX9 yX9_floatsOf yX9_floatsOf, Cond.code yX9_floatsOf cX9_floatsOf 5 (some .int), Cond.fieldLink RX9 123 "ShipFromItselfModel" "isSunk" "Z", Cond.fieldLink RX9 120 "ShipFromItselfModel" "water" "I", Cond.fieldLink RX9 117 "ShipFromItselfModel" "pumps" "I", Cond.fieldLink RX9 72 "ShipFromItselfModel" "bears" "I", Cond.methodLink RX9 169 yX9_leakOf, Cond.instanceMethod yX9_leakOf, Cond.selects RX9 yX9_leakOf yX9_leakOf, Cond.code yX9_leakOf cX9_leakOf 5 (some .int), Cond.fieldLink RX9 28 "ShipFromItselfModel" "lets" "[I", Cond.methodLink RX9 148 yX9_openSet, Cond.instanceMethod yX9_openSet, Cond.selects RX9 yX9_openSet yX9_openSet]
def wsX9_isPort_r3 : List Cond := [Cond.code yX9_openSet cX9_openSet 4 (some .int), Cond.methodLink RX9 172 yX9_gnaw, Cond.instanceMethod yX9_gnaw, Cond.selects RX9 yX9_gnaw yX9_gnaw, Cond.code yX9_gnaw cX9_gnaw 3 none, Cond.methodLink RX9 152 yX9_comeDown, Cond.instanceMethod yX9_comeDown, Cond.selects RX9 yX9_comeDown yX9_comeDown, Cond.code yX9_comeDown cX9_comeDown 5 none]
def wsX9_isPort : List Cond := .code yX9_isPort cX9_isPort 3 (some .boolean) :: ((wsX9_isPort_r1 ++ (wsX9_isPort_r2 ++ wsX9_isPort_r3)) ++ wsX90)
def wsX9_layPort_r1 : List Cond := [Cond.fieldLink RX9 114 "ShipFromItselfModel" "many" "I", Cond.fieldLink RX9 52 "ShipFromItselfModel" "found" "[I", Cond.methodLink RX9 175 yX9_floatsOf, Cond.instanceMethod yX9_floatsOf, Cond.selects RX9 yX9_floatsOf yX9_floatsOf, Cond.initialized RX9, Cond.code yX9_floatsOf cX9_floatsOf 5 (some .int), Cond.fieldLink RX9 123 "ShipFromItselfModel" "isSunk" "Z", Cond.fieldLink RX9 120 "ShipFromItselfModel" "water" "I", Cond.fieldLink RX9 117 "ShipFromItselfModel" "pumps" "I", Cond.fieldLink RX9 72 "ShipFromItselfModel" "bears" "I", Cond.methodLink RX9 162 yX9_copy, Cond.instanceMethod yX9_copy, Cond.selects RX9 yX9_copy yX9_copy, Cond.code yX9_copy cX9_copy 4 none, Cond.fieldLink RX9 40 "ShipFromItselfModel" "at" "[I", Cond.fieldLink RX9 43 "ShipFromItselfModel" "size" "[I", Cond.fieldLink RX9 46 "ShipFromItselfModel" "worms" "[I", Cond.methodLink RX9 169 yX9_leakOf, Cond.instanceMethod yX9_leakOf, Cond.selects RX9 yX9_leakOf yX9_leakOf, Cond.code yX9_leakOf cX9_leakOf 5 (some .int), Cond.fieldLink RX9 28 "ShipFromItselfModel" "lets" "[I", Cond.methodLink RX9 148 yX9_openSet]
def wsX9_layPort_r2 : List Cond := [Cond.instanceMethod yX9_openSet, Cond.selects RX9 yX9_openSet yX9_openSet, Cond.code yX9_openSet cX9_openSet 4 (some .int), Cond.methodLink RX9 134 yX9_inside, Cond.instanceMethod yX9_inside, Cond.selects RX9 yX9_inside yX9_inside, Cond.code yX9_inside cX9_inside 4 (some .int), Cond.methodLink RX9 172 yX9_gnaw, Cond.instanceMethod yX9_gnaw, Cond.selects RX9 yX9_gnaw yX9_gnaw, Cond.code yX9_gnaw cX9_gnaw 3 none, Cond.methodLink RX9 152 yX9_comeDown, Cond.instanceMethod yX9_comeDown, Cond.selects RX9 yX9_comeDown yX9_comeDown, Cond.code yX9_comeDown cX9_comeDown 5 none, Cond.fieldLink RX9 31 "ShipFromItselfModel" "rest" "[I", Cond.methodLink RX9 166 yX9_goes, Cond.instanceMethod yX9_goes, Cond.selects RX9 yX9_goes yX9_goes, Cond.code yX9_goes cX9_goes 5 (some .boolean), Cond.fieldLink RX9 25 "ShipFromItselfModel" "wide" "[I", Cond.methodLink RX9 141 yX9_canTake, Cond.instanceMethod yX9_canTake, Cond.selects RX9 yX9_canTake yX9_canTake]
def wsX9_layPort_r3 : List Cond := [Cond.code yX9_canTake cX9_canTake 3 (some .boolean), Cond.methodLink RX9 137 yX9_isBorne, Cond.instanceMethod yX9_isBorne, Cond.selects RX9 yX9_isBorne yX9_isBorne, Cond.code yX9_isBorne cX9_isBorne 5 (some .boolean), Cond.methodLink RX9 144 yX9_canPut, Cond.instanceMethod yX9_canPut, Cond.selects RX9 yX9_canPut yX9_canPut, Cond.code yX9_canPut cX9_canPut 4 (some .boolean), Cond.methodLink RX9 192 yX9_isPort, Cond.instanceMethod yX9_isPort, Cond.selects RX9 yX9_isPort yX9_isPort, Cond.code yX9_isPort cX9_isPort 3 (some .boolean)]
def wsX9_layPort : List Cond := .code yX9_layPort cX9_layPort 3 (some .int) :: ((wsX9_layPort_r1 ++ (wsX9_layPort_r2 ++ wsX9_layPort_r3)) ++ wsX90)
def wsX9_port_r1 : List Cond := [Cond.constantLong RX9 195 (99), Cond.fieldLink RX9 123 "ShipFromItselfModel" "isSunk" "Z", Cond.methodLink RX9 78 yX9_in, Cond.static yX9_in, Cond.initialized RX9, Cond.code yX9_in cX9_in 6 (some .boolean), Cond.methodLink RX9 197 yX9_layPort, Cond.instanceMethod yX9_layPort, Cond.selects RX9 yX9_layPort yX9_layPort, Cond.code yX9_layPort cX9_layPort 3 (some .int), Cond.fieldLink RX9 114 "ShipFromItselfModel" "many" "I", Cond.fieldLink RX9 52 "ShipFromItselfModel" "found" "[I", Cond.methodLink RX9 175 yX9_floatsOf, Cond.instanceMethod yX9_floatsOf, Cond.selects RX9 yX9_floatsOf yX9_floatsOf, Cond.code yX9_floatsOf cX9_floatsOf 5 (some .int), Cond.fieldLink RX9 120 "ShipFromItselfModel" "water" "I", Cond.fieldLink RX9 117 "ShipFromItselfModel" "pumps" "I", Cond.fieldLink RX9 72 "ShipFromItselfModel" "bears" "I", Cond.methodLink RX9 162 yX9_copy, Cond.instanceMethod yX9_copy, Cond.selects RX9 yX9_copy yX9_copy, Cond.code yX9_copy cX9_copy 4 none, Cond.fieldLink RX9 40 "ShipFromItselfModel" "at" "[I"]
def wsX9_port_r2 : List Cond := [Cond.fieldLink RX9 43 "ShipFromItselfModel" "size" "[I", Cond.fieldLink RX9 46 "ShipFromItselfModel" "worms" "[I", Cond.methodLink RX9 169 yX9_leakOf, Cond.instanceMethod yX9_leakOf, Cond.selects RX9 yX9_leakOf yX9_leakOf, Cond.code yX9_leakOf cX9_leakOf 5 (some .int), Cond.fieldLink RX9 28 "ShipFromItselfModel" "lets" "[I", Cond.methodLink RX9 148 yX9_openSet, Cond.instanceMethod yX9_openSet, Cond.selects RX9 yX9_openSet yX9_openSet, Cond.code yX9_openSet cX9_openSet 4 (some .int), Cond.methodLink RX9 134 yX9_inside, Cond.instanceMethod yX9_inside, Cond.selects RX9 yX9_inside yX9_inside, Cond.code yX9_inside cX9_inside 4 (some .int), Cond.methodLink RX9 172 yX9_gnaw, Cond.instanceMethod yX9_gnaw, Cond.selects RX9 yX9_gnaw yX9_gnaw, Cond.code yX9_gnaw cX9_gnaw 3 none, Cond.methodLink RX9 152 yX9_comeDown, Cond.instanceMethod yX9_comeDown, Cond.selects RX9 yX9_comeDown yX9_comeDown, Cond.code yX9_comeDown cX9_comeDown 5 none, Cond.fieldLink RX9 31 "ShipFromItselfModel" "rest" "[I"]
def wsX9_port_r3 : List Cond := [Cond.methodLink RX9 166 yX9_goes, Cond.instanceMethod yX9_goes, Cond.selects RX9 yX9_goes yX9_goes, Cond.code yX9_goes cX9_goes 5 (some .boolean), Cond.fieldLink RX9 25 "ShipFromItselfModel" "wide" "[I", Cond.methodLink RX9 141 yX9_canTake, Cond.instanceMethod yX9_canTake, Cond.selects RX9 yX9_canTake yX9_canTake, Cond.code yX9_canTake cX9_canTake 3 (some .boolean), Cond.methodLink RX9 137 yX9_isBorne, Cond.instanceMethod yX9_isBorne, Cond.selects RX9 yX9_isBorne yX9_isBorne, Cond.code yX9_isBorne cX9_isBorne 5 (some .boolean), Cond.methodLink RX9 144 yX9_canPut, Cond.instanceMethod yX9_canPut, Cond.selects RX9 yX9_canPut yX9_canPut, Cond.code yX9_canPut cX9_canPut 4 (some .boolean), Cond.methodLink RX9 192 yX9_isPort, Cond.instanceMethod yX9_isPort, Cond.selects RX9 yX9_isPort yX9_isPort, Cond.code yX9_isPort cX9_isPort 3 (some .boolean)]
def wsX9_port : List Cond := .code yX9_port cX9_port 2 (some .int) :: ((wsX9_port_r1 ++ (wsX9_port_r2 ++ wsX9_port_r3)) ++ wsX90)
def wsX9_portAt_r1 : List Cond := [Cond.constantLong RX9 195 (99), Cond.fieldLink RX9 123 "ShipFromItselfModel" "isSunk" "Z", Cond.fieldLink RX9 52 "ShipFromItselfModel" "found" "[I", Cond.methodLink RX9 78 yX9_in, Cond.static yX9_in, Cond.initialized RX9, Cond.code yX9_in cX9_in 6 (some .boolean), Cond.methodLink RX9 197 yX9_layPort, Cond.instanceMethod yX9_layPort, Cond.selects RX9 yX9_layPort yX9_layPort, Cond.code yX9_layPort cX9_layPort 3 (some .int), Cond.fieldLink RX9 114 "ShipFromItselfModel" "many" "I", Cond.methodLink RX9 175 yX9_floatsOf, Cond.instanceMethod yX9_floatsOf, Cond.selects RX9 yX9_floatsOf yX9_floatsOf, Cond.code yX9_floatsOf cX9_floatsOf 5 (some .int), Cond.fieldLink RX9 120 "ShipFromItselfModel" "water" "I", Cond.fieldLink RX9 117 "ShipFromItselfModel" "pumps" "I", Cond.fieldLink RX9 72 "ShipFromItselfModel" "bears" "I", Cond.methodLink RX9 162 yX9_copy, Cond.instanceMethod yX9_copy, Cond.selects RX9 yX9_copy yX9_copy, Cond.code yX9_copy cX9_copy 4 none, Cond.fieldLink RX9 40 "ShipFromItselfModel" "at" "[I"]
def wsX9_portAt_r2 : List Cond := [Cond.fieldLink RX9 43 "ShipFromItselfModel" "size" "[I", Cond.fieldLink RX9 46 "ShipFromItselfModel" "worms" "[I", Cond.methodLink RX9 169 yX9_leakOf, Cond.instanceMethod yX9_leakOf, Cond.selects RX9 yX9_leakOf yX9_leakOf, Cond.code yX9_leakOf cX9_leakOf 5 (some .int), Cond.fieldLink RX9 28 "ShipFromItselfModel" "lets" "[I", Cond.methodLink RX9 148 yX9_openSet, Cond.instanceMethod yX9_openSet, Cond.selects RX9 yX9_openSet yX9_openSet, Cond.code yX9_openSet cX9_openSet 4 (some .int), Cond.methodLink RX9 134 yX9_inside, Cond.instanceMethod yX9_inside, Cond.selects RX9 yX9_inside yX9_inside, Cond.code yX9_inside cX9_inside 4 (some .int), Cond.methodLink RX9 172 yX9_gnaw, Cond.instanceMethod yX9_gnaw, Cond.selects RX9 yX9_gnaw yX9_gnaw, Cond.code yX9_gnaw cX9_gnaw 3 none, Cond.methodLink RX9 152 yX9_comeDown, Cond.instanceMethod yX9_comeDown, Cond.selects RX9 yX9_comeDown yX9_comeDown, Cond.code yX9_comeDown cX9_comeDown 5 none, Cond.fieldLink RX9 31 "ShipFromItselfModel" "rest" "[I"]
def wsX9_portAt_r3 : List Cond := [Cond.methodLink RX9 166 yX9_goes, Cond.instanceMethod yX9_goes, Cond.selects RX9 yX9_goes yX9_goes, Cond.code yX9_goes cX9_goes 5 (some .boolean), Cond.fieldLink RX9 25 "ShipFromItselfModel" "wide" "[I", Cond.methodLink RX9 141 yX9_canTake, Cond.instanceMethod yX9_canTake, Cond.selects RX9 yX9_canTake yX9_canTake, Cond.code yX9_canTake cX9_canTake 3 (some .boolean), Cond.methodLink RX9 137 yX9_isBorne, Cond.instanceMethod yX9_isBorne, Cond.selects RX9 yX9_isBorne yX9_isBorne, Cond.code yX9_isBorne cX9_isBorne 5 (some .boolean), Cond.methodLink RX9 144 yX9_canPut, Cond.instanceMethod yX9_canPut, Cond.selects RX9 yX9_canPut yX9_canPut, Cond.code yX9_canPut cX9_canPut 4 (some .boolean), Cond.methodLink RX9 192 yX9_isPort, Cond.instanceMethod yX9_isPort, Cond.selects RX9 yX9_isPort yX9_isPort, Cond.code yX9_isPort cX9_isPort 3 (some .boolean)]
def wsX9_portAt : List Cond := .code yX9_portAt cX9_portAt 3 (some .int) :: ((wsX9_portAt_r1 ++ (wsX9_portAt_r2 ++ wsX9_portAt_r3)) ++ wsX90)
def wsX9_part : List Cond := .code yX9_part cX9_part 11 (some .long) :: ([])
def wsX9_storm_r1 : List Cond := [Cond.constantLong RX9 200 (10), Cond.constantLong RX9 195 (99), Cond.constantLong RX9 202 (-2), Cond.fieldLink RX9 55 "ShipFromItselfModel" "sums" "[J", Cond.fieldLink RX9 114 "ShipFromItselfModel" "many" "I", Cond.fieldLink RX9 28 "ShipFromItselfModel" "lets" "[I", Cond.methodLink RX9 78 yX9_in, Cond.static yX9_in, Cond.initialized RX9, Cond.code yX9_in cX9_in 6 (some .boolean), Cond.methodLink RX9 169 yX9_leakOf, Cond.instanceMethod yX9_leakOf, Cond.selects RX9 yX9_leakOf yX9_leakOf, Cond.code yX9_leakOf cX9_leakOf 5 (some .int), Cond.methodLink RX9 148 yX9_openSet, Cond.instanceMethod yX9_openSet, Cond.selects RX9 yX9_openSet yX9_openSet, Cond.code yX9_openSet cX9_openSet 4 (some .int), Cond.methodLink RX9 134 yX9_inside, Cond.instanceMethod yX9_inside, Cond.selects RX9 yX9_inside yX9_inside, Cond.code yX9_inside cX9_inside 4 (some .int), Cond.fieldLink RX9 40 "ShipFromItselfModel" "at" "[I", Cond.methodLink RX9 204 yX9_part]
def wsX9_storm_r2 : List Cond := [Cond.static yX9_part, Cond.code yX9_part cX9_part 11 (some .long)]
def wsX9_storm : List Cond := .code yX9_storm cX9_storm 9 (some .long) :: ((wsX9_storm_r1 ++ wsX9_storm_r2) ++ wsX90)
def wsX9_share : List Cond := .code yX9_share cX9_share 6 (some .int) :: ([.constantLong RX9 187 (2), .fieldLink RX9 114 "ShipFromItselfModel" "many" "I", .fieldLink RX9 40 "ShipFromItselfModel" "at" "[I", .fieldLink RX9 43 "ShipFromItselfModel" "size" "[I", .fieldLink RX9 34 "ShipFromItselfModel" "ships" "[I", .methodLink RX9 78 yX9_in, .static yX9_in, .initialized RX9, .code yX9_in cX9_in 6 (some .boolean), .methodLink RX9 204 yX9_part, .static yX9_part, .code yX9_part cX9_part 11 (some .long)] ++ wsX90)
def wsX9_logLast_r1 : List Cond := [Cond.fieldLink RX9 114 "ShipFromItselfModel" "many" "I", Cond.methodLink RX9 162 yX9_copy, Cond.instanceMethod yX9_copy, Cond.selects RX9 yX9_copy yX9_copy, Cond.initialized RX9, Cond.code yX9_copy cX9_copy 4 none, Cond.fieldLink RX9 40 "ShipFromItselfModel" "at" "[I", Cond.fieldLink RX9 43 "ShipFromItselfModel" "size" "[I", Cond.fieldLink RX9 46 "ShipFromItselfModel" "worms" "[I", Cond.methodLink RX9 166 yX9_goes, Cond.instanceMethod yX9_goes, Cond.selects RX9 yX9_goes yX9_goes, Cond.code yX9_goes cX9_goes 5 (some .boolean), Cond.fieldLink RX9 25 "ShipFromItselfModel" "wide" "[I", Cond.methodLink RX9 141 yX9_canTake, Cond.instanceMethod yX9_canTake, Cond.selects RX9 yX9_canTake yX9_canTake, Cond.code yX9_canTake cX9_canTake 3 (some .boolean), Cond.methodLink RX9 134 yX9_inside, Cond.instanceMethod yX9_inside, Cond.selects RX9 yX9_inside yX9_inside, Cond.code yX9_inside cX9_inside 4 (some .int), Cond.methodLink RX9 137 yX9_isBorne, Cond.instanceMethod yX9_isBorne]
def wsX9_logLast_r2 : List Cond := [Cond.selects RX9 yX9_isBorne yX9_isBorne, Cond.code yX9_isBorne cX9_isBorne 5 (some .boolean), Cond.fieldLink RX9 31 "ShipFromItselfModel" "rest" "[I", Cond.methodLink RX9 144 yX9_canPut, Cond.instanceMethod yX9_canPut, Cond.selects RX9 yX9_canPut yX9_canPut, Cond.code yX9_canPut cX9_canPut 4 (some .boolean), Cond.methodLink RX9 148 yX9_openSet, Cond.instanceMethod yX9_openSet, Cond.selects RX9 yX9_openSet yX9_openSet, Cond.code yX9_openSet cX9_openSet 4 (some .int)]
def wsX9_logLast : List Cond := .code yX9_logLast cX9_logLast 4 (some .int) :: ((wsX9_logLast_r1 ++ wsX9_logLast_r2) ++ wsX90)
def wsX9_logFrom_r1 : List Cond := [Cond.fieldLink RX9 114 "ShipFromItselfModel" "many" "I", Cond.methodLink RX9 162 yX9_copy, Cond.instanceMethod yX9_copy, Cond.selects RX9 yX9_copy yX9_copy, Cond.initialized RX9, Cond.code yX9_copy cX9_copy 4 none, Cond.fieldLink RX9 40 "ShipFromItselfModel" "at" "[I", Cond.fieldLink RX9 43 "ShipFromItselfModel" "size" "[I", Cond.fieldLink RX9 46 "ShipFromItselfModel" "worms" "[I", Cond.methodLink RX9 166 yX9_goes, Cond.instanceMethod yX9_goes, Cond.selects RX9 yX9_goes yX9_goes, Cond.code yX9_goes cX9_goes 5 (some .boolean), Cond.fieldLink RX9 25 "ShipFromItselfModel" "wide" "[I", Cond.methodLink RX9 141 yX9_canTake, Cond.instanceMethod yX9_canTake, Cond.selects RX9 yX9_canTake yX9_canTake, Cond.code yX9_canTake cX9_canTake 3 (some .boolean), Cond.methodLink RX9 134 yX9_inside, Cond.instanceMethod yX9_inside, Cond.selects RX9 yX9_inside yX9_inside, Cond.code yX9_inside cX9_inside 4 (some .int), Cond.methodLink RX9 137 yX9_isBorne, Cond.instanceMethod yX9_isBorne]
def wsX9_logFrom_r2 : List Cond := [Cond.selects RX9 yX9_isBorne yX9_isBorne, Cond.code yX9_isBorne cX9_isBorne 5 (some .boolean), Cond.fieldLink RX9 31 "ShipFromItselfModel" "rest" "[I", Cond.methodLink RX9 144 yX9_canPut, Cond.instanceMethod yX9_canPut, Cond.selects RX9 yX9_canPut yX9_canPut, Cond.code yX9_canPut cX9_canPut 4 (some .boolean), Cond.methodLink RX9 148 yX9_openSet, Cond.instanceMethod yX9_openSet, Cond.selects RX9 yX9_openSet yX9_openSet, Cond.code yX9_openSet cX9_openSet 4 (some .int), Cond.methodLink RX9 214 yX9_logLast, Cond.instanceMethod yX9_logLast, Cond.selects RX9 yX9_logLast yX9_logLast, Cond.code yX9_logLast cX9_logLast 4 (some .int)]
def wsX9_logFrom : List Cond := .code yX9_logFrom cX9_logFrom 6 (some .int) :: ((wsX9_logFrom_r1 ++ wsX9_logFrom_r2) ++ wsX90)
def wsX9_log_r1 : List Cond := [Cond.constantLong RX9 208 (3), Cond.fieldLink RX9 114 "ShipFromItselfModel" "many" "I", Cond.fieldLink RX9 123 "ShipFromItselfModel" "isSunk" "Z", Cond.methodLink RX9 78 yX9_in, Cond.static yX9_in, Cond.initialized RX9, Cond.code yX9_in cX9_in 6 (some .boolean), Cond.methodLink RX9 162 yX9_copy, Cond.instanceMethod yX9_copy, Cond.selects RX9 yX9_copy yX9_copy, Cond.code yX9_copy cX9_copy 4 none, Cond.fieldLink RX9 40 "ShipFromItselfModel" "at" "[I", Cond.fieldLink RX9 43 "ShipFromItselfModel" "size" "[I", Cond.fieldLink RX9 46 "ShipFromItselfModel" "worms" "[I", Cond.methodLink RX9 166 yX9_goes, Cond.instanceMethod yX9_goes, Cond.selects RX9 yX9_goes yX9_goes, Cond.code yX9_goes cX9_goes 5 (some .boolean), Cond.fieldLink RX9 25 "ShipFromItselfModel" "wide" "[I", Cond.methodLink RX9 141 yX9_canTake, Cond.instanceMethod yX9_canTake, Cond.selects RX9 yX9_canTake yX9_canTake, Cond.code yX9_canTake cX9_canTake 3 (some .boolean), Cond.methodLink RX9 134 yX9_inside]
def wsX9_log_r2 : List Cond := [Cond.instanceMethod yX9_inside, Cond.selects RX9 yX9_inside yX9_inside, Cond.code yX9_inside cX9_inside 4 (some .int), Cond.methodLink RX9 137 yX9_isBorne, Cond.instanceMethod yX9_isBorne, Cond.selects RX9 yX9_isBorne yX9_isBorne, Cond.code yX9_isBorne cX9_isBorne 5 (some .boolean), Cond.fieldLink RX9 31 "ShipFromItselfModel" "rest" "[I", Cond.methodLink RX9 144 yX9_canPut, Cond.instanceMethod yX9_canPut, Cond.selects RX9 yX9_canPut yX9_canPut, Cond.code yX9_canPut cX9_canPut 4 (some .boolean), Cond.methodLink RX9 148 yX9_openSet, Cond.instanceMethod yX9_openSet, Cond.selects RX9 yX9_openSet yX9_openSet, Cond.code yX9_openSet cX9_openSet 4 (some .int), Cond.methodLink RX9 210 yX9_logFrom, Cond.instanceMethod yX9_logFrom, Cond.selects RX9 yX9_logFrom yX9_logFrom, Cond.code yX9_logFrom cX9_logFrom 6 (some .int), Cond.methodLink RX9 214 yX9_logLast, Cond.instanceMethod yX9_logLast, Cond.selects RX9 yX9_logLast yX9_logLast, Cond.code yX9_logLast cX9_logLast 4 (some .int)]
def wsX9_log : List Cond := .code yX9_log cX9_log 5 (some .int) :: ((wsX9_log_r1 ++ wsX9_log_r2) ++ wsX90)
def wsX9_keep : List Cond := .code yX9_keep cX9_keep 3 (some .int) :: ([.fieldLink RX9 59 "ShipFromItselfModel" "isKept" "[Z", .fieldLink RX9 63 "ShipFromItselfModel" "kept" "[I", .fieldLink RX9 40 "ShipFromItselfModel" "at" "[I", .fieldLink RX9 43 "ShipFromItselfModel" "size" "[I", .fieldLink RX9 46 "ShipFromItselfModel" "worms" "[I", .fieldLink RX9 66 "ShipFromItselfModel" "keptWater" "[I", .fieldLink RX9 120 "ShipFromItselfModel" "water" "I", .fieldLink RX9 69 "ShipFromItselfModel" "keptSunk" "[Z", .fieldLink RX9 123 "ShipFromItselfModel" "isSunk" "Z", .methodLink RX9 78 yX9_in, .static yX9_in, .initialized RX9, .code yX9_in cX9_in 6 (some .boolean)] ++ wsX90)
def wsX9_again : List Cond := .code yX9_again cX9_again 3 (some .int) :: ([.fieldLink RX9 59 "ShipFromItselfModel" "isKept" "[Z", .fieldLink RX9 40 "ShipFromItselfModel" "at" "[I", .fieldLink RX9 63 "ShipFromItselfModel" "kept" "[I", .fieldLink RX9 43 "ShipFromItselfModel" "size" "[I", .fieldLink RX9 46 "ShipFromItselfModel" "worms" "[I", .fieldLink RX9 66 "ShipFromItselfModel" "keptWater" "[I", .fieldLink RX9 120 "ShipFromItselfModel" "water" "I", .fieldLink RX9 69 "ShipFromItselfModel" "keptSunk" "[Z", .fieldLink RX9 123 "ShipFromItselfModel" "isSunk" "Z", .fieldLink RX9 127 "ShipFromItselfModel" "acts" "I", .methodLink RX9 78 yX9_in, .static yX9_in, .initialized RX9, .code yX9_in cX9_in 6 (some .boolean)] ++ wsX90)
def wsX9_count : List Cond := .code yX9_count cX9_count 6 (some .int) :: ([.fieldLink RX9 114 "ShipFromItselfModel" "many" "I", .fieldLink RX9 40 "ShipFromItselfModel" "at" "[I", .fieldLink RX9 82 "ShipFromItselfModel" "length" "I", .fieldLink RX9 120 "ShipFromItselfModel" "water" "I", .fieldLink RX9 123 "ShipFromItselfModel" "isSunk" "Z", .fieldLink RX9 117 "ShipFromItselfModel" "pumps" "I", .fieldLink RX9 72 "ShipFromItselfModel" "bears" "I", .fieldLink RX9 127 "ShipFromItselfModel" "acts" "I", .methodLink RX9 134 yX9_inside, .instanceMethod yX9_inside, .selects RX9 yX9_inside yX9_inside, .initialized RX9, .code yX9_inside cX9_inside 4 (some .int)] ++ wsX90)
def wsJ9_max_7cf53 : List Cond := .code yJ9_max_7cf53 cJ9_max_7cf53 2 (some .int) :: ([])
def wsJ9_min_7cf53 : List Cond := .code yJ9_min_7cf53 cJ9_min_7cf53 2 (some .int) :: ([])
def wsL_law_r1 : List Cond := [Cond.classLink RL 7 RX8, Cond.instantiable RX8 8, Cond.initialized RX8, Cond.classLink RL 10 RX9, Cond.instantiable RX9 35, Cond.initialized RX9, Cond.constantLong RL 13 (4294967295), Cond.methodLink RL 9 yX8_init, Cond.instanceMethod yX8_init, Cond.code yX8_init cX8_init 1 none, Cond.methodLink RX8 1 objectInit, Cond.instanceMethod objectInit, Cond.code objectInit ⟨#[0xb1]⟩ 1 none, Cond.classLink RX8 7 RX7, Cond.instantiable RX7 2, Cond.initialized RX7, Cond.fieldLink RX8 10 "ShipFromItself" "text" "LShipFromItself$Text;", Cond.classLink RX8 16 RX2, Cond.instantiable RX2 7, Cond.initialized RX2, Cond.fieldLink RX8 19 "ShipFromItself" "hull" "LShipFromItself$Hull;", Cond.classLink RX8 23 RX3, Cond.instantiable RX3 6, Cond.initialized RX3]
def wsL_law_r2 : List Cond := [Cond.fieldLink RX8 26 "ShipFromItself" "now" "LShipFromItself$Load;", Cond.fieldLink RX8 30 "ShipFromItself" "trial" "LShipFromItself$Load;", Cond.classLink RX8 33 RX0, Cond.instantiable RX0 3, Cond.initialized RX0, Cond.fieldLink RX8 36 "ShipFromItself" "acts" "LShipFromItself$ActRow;", Cond.classLink RX8 40 RX6, Cond.instantiable RX6 2, Cond.initialized RX6, Cond.fieldLink RX8 43 "ShipFromItself" "slots" "LShipFromItself$Slots;", Cond.classLink RX8 47 RX1, Cond.instantiable RX1 2, Cond.initialized RX1, Cond.fieldLink RX8 50 "ShipFromItself" "chances" "LShipFromItself$Chances;", Cond.classLink RX8 54 RX5, Cond.instantiable RX5 5, Cond.initialized RX5, Cond.fieldLink RX8 59 "ShipFromItself" "search" "LShipFromItself$Search;", Cond.instanceMethod yX7_init, Cond.code yX7_init cX7_init 1 none, Cond.methodLink RX7 3 objectInit, Cond.arrayClass .byte, Cond.fieldLink RX7 9 "ShipFromItself$Text" "bytes" "[B", Cond.fieldLink RX7 15 "ShipFromItself$Text" "size" "I"]
def wsL_law_r3 : List Cond := [Cond.instanceMethod yX2_init, Cond.code yX2_init cX2_init 1 none, Cond.methodLink RX2 3 objectInit, Cond.arrayClass .int, Cond.fieldLink RX2 9 "ShipFromItself$Hull" "length" "[I", Cond.fieldLink RX2 15 "ShipFromItself$Hull" "letsIn" "[I", Cond.fieldLink RX2 18 "ShipFromItself$Hull" "restsOn" "[I", Cond.fieldLink RX2 21 "ShipFromItself$Hull" "shipOf" "[I", Cond.fieldLink RX2 24 "ShipFromItself$Hull" "places" "I", Cond.fieldLink RX2 28 "ShipFromItself$Hull" "pumps" "I", Cond.fieldLink RX2 31 "ShipFromItself$Hull" "hold" "I", Cond.methodLink RX8 25 yX3_init, Cond.instanceMethod yX3_init, Cond.code yX3_init cX3_init 2 none, Cond.methodLink RX3 3 objectInit, Cond.fieldLink RX3 9 "ShipFromItself$Load" "where" "[I", Cond.fieldLink RX3 15 "ShipFromItself$Load" "length" "[I", Cond.fieldLink RX3 18 "ShipFromItself$Load" "worms" "[I", Cond.fieldLink RX3 21 "ShipFromItself$Load" "timberIn" "[I", Cond.fieldLink RX3 24 "ShipFromItself$Load" "water" "I", Cond.fieldLink RX3 28 "ShipFromItself$Load" "sunk" "Z", Cond.methodLink RX8 35 yX0_init, Cond.instanceMethod yX0_init, Cond.code yX0_init cX0_init 2 none]
def wsL_law_r4 : List Cond := [Cond.methodLink RX0 3 objectInit, Cond.classLink RX0 9 RX3, Cond.fieldLink RX0 11 "ShipFromItself$ActRow" "before" "[LShipFromItself$Load;", Cond.fieldLink RX0 17 "ShipFromItself$ActRow" "first" "I", Cond.fieldLink RX0 21 "ShipFromItself$ActRow" "size" "I", Cond.methodLink RX0 24 yX3_init, Cond.methodLink RX8 42 yX6_init, Cond.instanceMethod yX6_init, Cond.code yX6_init cX6_init 2 none, Cond.methodLink RX6 3 objectInit, Cond.classLink RX6 9 RX3, Cond.fieldLink RX6 11 "ShipFromItself$Slots" "stored" "[LShipFromItself$Load;", Cond.arrayClass .boolean, Cond.fieldLink RX6 17 "ShipFromItself$Slots" "filled" "[Z", Cond.methodLink RX6 21 yX3_init, Cond.instanceMethod yX1_init, Cond.code yX1_init cX1_init 1 none, Cond.methodLink RX1 3 objectInit, Cond.arrayClass .long, Cond.fieldLink RX1 9 "ShipFromItself$Chances" "ways" "[J", Cond.fieldLink RX1 15 "ShipFromItself$Chances" "all" "J", Cond.methodLink RX8 56 yX5_init, Cond.instanceMethod yX5_init, Cond.code yX5_init cX5_init 3 none]
def wsL_law_r5 : List Cond := [Cond.methodLink RX5 3 objectInit, Cond.fieldLink RX5 9 "ShipFromItself$Search" "found" "[I", Cond.fieldLink RX5 15 "ShipFromItself$Search" "foundMoves" "I", Cond.fieldLink RX5 19 "ShipFromItself$Search" "hull" "LShipFromItself$Hull;", Cond.fieldLink RX5 23 "ShipFromItself$Search" "trial" "LShipFromItself$Load;", Cond.classLink RX5 27 RX4, Cond.instantiable RX4 5, Cond.initialized RX4, Cond.fieldLink RX5 32 "ShipFromItself$Search" "rows" "LShipFromItself$Rows;", Cond.methodLink RX5 29 yX4_init, Cond.instanceMethod yX4_init, Cond.code yX4_init cX4_init 3 none, Cond.methodLink RX4 3 objectInit, Cond.classLink RX4 9 RX3, Cond.fieldLink RX4 11 "ShipFromItself$Rows" "steps" "[LShipFromItself$Load;", Cond.fieldLink RX4 17 "ShipFromItself$Rows" "row" "[I", Cond.fieldLink RX4 21 "ShipFromItself$Rows" "moves" "I", Cond.fieldLink RX4 25 "ShipFromItself$Rows" "begun" "Z", Cond.fieldLink RX4 29 "ShipFromItself$Rows" "hull" "LShipFromItself$Hull;", Cond.methodLink RX4 33 yX3_init, Cond.methodLink RL 12 yX9_init, Cond.instanceMethod yX9_init, Cond.code yX9_init cX9_init 1 none, Cond.methodLink RX9 1 objectInit]
def wsL_law_r6 : List Cond := [Cond.fieldLink RX9 7 "ShipFromItselfModel" "readLong" "[I", Cond.fieldLink RX9 13 "ShipFromItselfModel" "readIn" "[I", Cond.fieldLink RX9 16 "ShipFromItselfModel" "readRest" "[I", Cond.fieldLink RX9 19 "ShipFromItselfModel" "readShip" "[I", Cond.fieldLink RX9 22 "ShipFromItselfModel" "readWorms" "[I", Cond.fieldLink RX9 25 "ShipFromItselfModel" "wide" "[I", Cond.fieldLink RX9 28 "ShipFromItselfModel" "lets" "[I", Cond.fieldLink RX9 31 "ShipFromItselfModel" "rest" "[I", Cond.fieldLink RX9 34 "ShipFromItselfModel" "ships" "[I", Cond.fieldLink RX9 37 "ShipFromItselfModel" "text" "[I", Cond.fieldLink RX9 40 "ShipFromItselfModel" "at" "[I", Cond.fieldLink RX9 43 "ShipFromItselfModel" "size" "[I", Cond.fieldLink RX9 46 "ShipFromItselfModel" "worms" "[I", Cond.fieldLink RX9 49 "ShipFromItselfModel" "row" "[I", Cond.fieldLink RX9 52 "ShipFromItselfModel" "found" "[I", Cond.fieldLink RX9 55 "ShipFromItselfModel" "sums" "[J", Cond.fieldLink RX9 59 "ShipFromItselfModel" "isKept" "[Z", Cond.fieldLink RX9 63 "ShipFromItselfModel" "kept" "[I", Cond.fieldLink RX9 66 "ShipFromItselfModel" "keptWater" "[I", Cond.fieldLink RX9 69 "ShipFromItselfModel" "keptSunk" "[Z", Cond.fieldLink RX9 72 "ShipFromItselfModel" "bears" "I", Cond.methodLink RL 15 yX8_write, Cond.instanceMethod yX8_write, Cond.selects RX8 yX8_write yX8_write]
def wsL_law_r7 : List Cond := [Cond.code yX8_write cX8_write 4 (some .int), Cond.methodLink RX8 63 yX7_hasRoomFor, Cond.instanceMethod yX7_hasRoomFor, Cond.selects RX7 yX7_hasRoomFor yX7_hasRoomFor, Cond.code yX7_hasRoomFor cX7_hasRoomFor 2 (some .boolean), Cond.methodLink RX8 67 yX7_append, Cond.instanceMethod yX7_append, Cond.selects RX7 yX7_append yX7_append, Cond.code yX7_append cX7_append 5 none, Cond.methodLink RX8 71 yX7_size, Cond.instanceMethod yX7_size, Cond.selects RX7 yX7_size yX7_size, Cond.code yX7_size cX7_size 1 (some .int), Cond.methodLink RL 19 yX9_write, Cond.instanceMethod yX9_write, Cond.selects RX9 yX9_write yX9_write, Cond.code yX9_write cX9_write 5 (some .int), Cond.constantLong RX9 76 (8), Cond.fieldLink RX9 82 "ShipFromItselfModel" "length" "I", Cond.constantLong RX9 85 (255), Cond.methodLink RX9 78 yX9_in, Cond.static yX9_in, Cond.code yX9_in cX9_in 6 (some .boolean), Cond.methodLink RL 20 yX8_wipe]
def wsL_law_r8 : List Cond := [Cond.instanceMethod yX8_wipe, Cond.selects RX8 yX8_wipe yX8_wipe, Cond.code yX8_wipe cX8_wipe 2 (some .int), Cond.methodLink RX8 75 yX7_clear, Cond.instanceMethod yX7_clear, Cond.selects RX7 yX7_clear yX7_clear, Cond.code yX7_clear cX7_clear 1 none, Cond.methodLink RL 24 yX9_wipe, Cond.instanceMethod yX9_wipe, Cond.selects RX9 yX9_wipe yX9_wipe, Cond.code yX9_wipe cX9_wipe 2 (some .int), Cond.methodLink RL 25 yX8_fault, Cond.instanceMethod yX8_fault, Cond.selects RX8 yX8_fault yX8_fault, Cond.code yX8_fault cX8_fault 1 (some .int), Cond.methodLink RX8 78 yX7_firstFault, Cond.instanceMethod yX7_firstFault, Cond.selects RX7 yX7_firstFault yX7_firstFault, Cond.code yX7_firstFault cX7_firstFault 5 (some .int), Cond.methodLink RX7 27 yX7_faultInHead, Cond.instanceMethod yX7_faultInHead, Cond.selects RX7 yX7_faultInHead yX7_faultInHead, Cond.code yX7_faultInHead cX7_faultInHead 2 (some .int), Cond.methodLink RX7 19 yX7_byteAt]
def wsL_law_r9 : List Cond := [Cond.instanceMethod yX7_byteAt, Cond.selects RX7 yX7_byteAt yX7_byteAt, Cond.code yX7_byteAt cX7_byteAt 2 (some .int), Cond.methodLink RX7 38 yX7_isFigure, Cond.instanceMethod yX7_isFigure, Cond.selects RX7 yX7_isFigure yX7_isFigure, Cond.code yX7_isFigure cX7_isFigure 4 (some .boolean), Cond.methodLink RX7 42 yX7_figureAt, Cond.instanceMethod yX7_figureAt, Cond.selects RX7 yX7_figureAt yX7_figureAt, Cond.code yX7_figureAt cX7_figureAt 2 (some .int), Cond.methodLink RX7 31 yX7_faultInPlace, Cond.instanceMethod yX7_faultInPlace, Cond.selects RX7 yX7_faultInPlace yX7_faultInPlace, Cond.code yX7_faultInPlace cX7_faultInPlace 3 (some .int), Cond.methodLink RX7 23 yX7_isFilledPlace, Cond.instanceMethod yX7_isFilledPlace, Cond.selects RX7 yX7_isFilledPlace yX7_isFilledPlace, Cond.code yX7_isFilledPlace cX7_isFilledPlace 2 (some .boolean), Cond.methodLink RX7 45 yX7_faultInTimber, Cond.instanceMethod yX7_faultInTimber, Cond.selects RX7 yX7_faultInTimber yX7_faultInTimber, Cond.code yX7_faultInTimber cX7_faultInTimber 2 (some .int), Cond.methodLink RX7 35 yX7_bytesOfPlace]
def wsL_law_r10 : List Cond := [Cond.instanceMethod yX7_bytesOfPlace, Cond.selects RX7 yX7_bytesOfPlace yX7_bytesOfPlace, Cond.code yX7_bytesOfPlace cX7_bytesOfPlace 2 (some .int), Cond.methodLink RL 28 yX9_fault, Cond.instanceMethod yX9_fault, Cond.selects RX9 yX9_fault yX9_fault, Cond.code yX9_fault cX9_fault 1 (some .int), Cond.methodLink RX9 110 yX9_readText, Cond.instanceMethod yX9_readText, Cond.selects RX9 yX9_readText yX9_readText, Cond.code yX9_readText cX9_readText 3 (some .int), Cond.fieldLink RX9 90 "ShipFromItselfModel" "pos" "I", Cond.fieldLink RX9 87 "ShipFromItselfModel" "faultAt" "I", Cond.fieldLink RX9 93 "ShipFromItselfModel" "readMany" "I", Cond.fieldLink RX9 100 "ShipFromItselfModel" "readPumps" "I", Cond.fieldLink RX9 103 "ShipFromItselfModel" "readBears" "I", Cond.methodLink RX9 96 yX9_figure, Cond.instanceMethod yX9_figure, Cond.selects RX9 yX9_figure yX9_figure, Cond.code yX9_figure cX9_figure 4 (some .int), Cond.methodLink RX9 106 yX9_readPlace, Cond.instanceMethod yX9_readPlace, Cond.selects RX9 yX9_readPlace yX9_readPlace, Cond.code yX9_readPlace cX9_readPlace 3 none]
def wsL_law_r11 : List Cond := [Cond.methodLink RL 29 yX8_ship, Cond.instanceMethod yX8_ship, Cond.selects RX8 yX8_ship yX8_ship, Cond.code yX8_ship cX8_ship 1 (some .int), Cond.methodLink RX8 81 yX2_build, Cond.instanceMethod yX2_build, Cond.selects RX2 yX2_build yX2_build, Cond.code yX2_build cX2_build 4 none, Cond.methodLink RX2 34 yX7_figureAt, Cond.methodLink RX2 40 yX7_size, Cond.methodLink RX2 44 yX7_byteAt, Cond.methodLink RX2 47 yX7_isFilledPlace, Cond.methodLink RX2 51 yX7_bytesOfPlace, Cond.methodLink RX8 85 yX3_fill, Cond.instanceMethod yX3_fill, Cond.selects RX3 yX3_fill yX3_fill, Cond.code yX3_fill cX3_fill 6 none, Cond.methodLink RX3 32 yX2_isPlace, Cond.instanceMethod yX2_isPlace, Cond.selects RX2 yX2_isPlace yX2_isPlace, Cond.code yX2_isPlace cX2_isPlace 2 (some .boolean), Cond.methodLink RX3 38 yX7_isFilledPlace, Cond.methodLink RX3 43 yX2_lengthOf, Cond.instanceMethod yX2_lengthOf]
def wsL_law_r12 : List Cond := [Cond.selects RX2 yX2_lengthOf yX2_lengthOf, Cond.code yX2_lengthOf cX2_lengthOf 2 (some .int), Cond.methodLink RX3 47 yX7_figureAt, Cond.methodLink RX3 50 yX7_bytesOfPlace, Cond.methodLink RX8 89 yX0_forgetAll, Cond.instanceMethod yX0_forgetAll, Cond.selects RX0 yX0_forgetAll yX0_forgetAll, Cond.code yX0_forgetAll cX0_forgetAll 1 none, Cond.methodLink RX8 92 yX6_forgetAll, Cond.instanceMethod yX6_forgetAll, Cond.selects RX6 yX6_forgetAll yX6_forgetAll, Cond.code yX6_forgetAll cX6_forgetAll 2 none, Cond.methodLink RX8 93 yX2_places, Cond.instanceMethod yX2_places, Cond.selects RX2 yX2_places yX2_places, Cond.code yX2_places cX2_places 1 (some .int), Cond.methodLink RL 32 yX9_ship, Cond.instanceMethod yX9_ship, Cond.selects RX9 yX9_ship yX9_ship, Cond.code yX9_ship cX9_ship 2 (some .int), Cond.fieldLink RX9 114 "ShipFromItselfModel" "many" "I", Cond.fieldLink RX9 117 "ShipFromItselfModel" "pumps" "I", Cond.fieldLink RX9 120 "ShipFromItselfModel" "water" "I", Cond.fieldLink RX9 123 "ShipFromItselfModel" "isSunk" "Z"]
def wsL_law_r13 : List Cond := [Cond.fieldLink RX9 127 "ShipFromItselfModel" "acts" "I", Cond.methodLink RL 33 yX8_place, Cond.instanceMethod yX8_place, Cond.selects RX8 yX8_place yX8_place, Cond.code yX8_place cX8_place 3 (some .int), Cond.methodLink RX8 96 yX2_isPlace, Cond.methodLink RX8 99 yX2_lengthOf, Cond.methodLink RX8 103 yX2_letsIn, Cond.instanceMethod yX2_letsIn, Cond.selects RX2 yX2_letsIn yX2_letsIn, Cond.code yX2_letsIn cX2_letsIn 2 (some .int), Cond.methodLink RX8 106 yX2_restsOn, Cond.instanceMethod yX2_restsOn, Cond.selects RX2 yX2_restsOn yX2_restsOn, Cond.code yX2_restsOn cX2_restsOn 2 (some .int), Cond.methodLink RX8 109 yX3_timberIn, Cond.instanceMethod yX3_timberIn, Cond.selects RX3 yX3_timberIn yX3_timberIn, Cond.code yX3_timberIn cX3_timberIn 2 (some .int), Cond.methodLink RL 37 yX9_place, Cond.instanceMethod yX9_place, Cond.selects RX9 yX9_place yX9_place, Cond.code yX9_place cX9_place 3 (some .int), Cond.methodLink RX9 130 yX9_isPlace]
def wsL_law_r14 : List Cond := [Cond.instanceMethod yX9_isPlace, Cond.selects RX9 yX9_isPlace yX9_isPlace, Cond.code yX9_isPlace cX9_isPlace 2 (some .boolean), Cond.methodLink RX9 134 yX9_inside, Cond.instanceMethod yX9_inside, Cond.selects RX9 yX9_inside yX9_inside, Cond.code yX9_inside cX9_inside 4 (some .int), Cond.methodLink RL 38 yX8_timber, Cond.instanceMethod yX8_timber, Cond.selects RX8 yX8_timber yX8_timber, Cond.code yX8_timber cX8_timber 3 (some .int), Cond.methodLink RX8 112 yX3_whereIs, Cond.instanceMethod yX3_whereIs, Cond.selects RX3 yX3_whereIs yX3_whereIs, Cond.code yX3_whereIs cX3_whereIs 2 (some .int), Cond.methodLink RX8 115 yX3_lengthOf, Cond.instanceMethod yX3_lengthOf, Cond.selects RX3 yX3_lengthOf yX3_lengthOf, Cond.code yX3_lengthOf cX3_lengthOf 2 (some .int), Cond.methodLink RX8 116 yX2_shipOf, Cond.instanceMethod yX2_shipOf, Cond.selects RX2 yX2_shipOf yX2_shipOf, Cond.code yX2_shipOf cX2_shipOf 2 (some .int), Cond.methodLink RX8 119 yX3_wormsIn]
def wsL_law_r15 : List Cond := [Cond.instanceMethod yX3_wormsIn, Cond.selects RX3 yX3_wormsIn yX3_wormsIn, Cond.code yX3_wormsIn cX3_wormsIn 2 (some .int), Cond.methodLink RL 41 yX9_timber, Cond.instanceMethod yX9_timber, Cond.selects RX9 yX9_timber yX9_timber, Cond.code yX9_timber cX9_timber 3 (some .int), Cond.methodLink RL 42 yX8_take, Cond.instanceMethod yX8_take, Cond.selects RX8 yX8_take yX8_take, Cond.code yX8_take cX8_take 3 (some .int), Cond.methodLink RX8 122 yX3_isSunk, Cond.instanceMethod yX3_isSunk, Cond.selects RX3 yX3_isSunk yX3_isSunk, Cond.code yX3_isSunk cX3_isSunk 1 (some .boolean), Cond.methodLink RX8 126 yX2_mayBeTakenFrom, Cond.instanceMethod yX2_mayBeTakenFrom, Cond.selects RX2 yX2_mayBeTakenFrom yX2_mayBeTakenFrom, Cond.code yX2_mayBeTakenFrom cX2_mayBeTakenFrom 4 (some .boolean), Cond.methodLink RX2 54 yX3_isOpen, Cond.instanceMethod yX3_isOpen, Cond.selects RX3 yX3_isOpen yX3_isOpen, Cond.code yX3_isOpen cX3_isOpen 2 (some .boolean), Cond.methodLink RX2 61 yX2_restsOn]
def wsL_law_r16 : List Cond := [Cond.methodLink RX8 130 yX0_remember, Cond.instanceMethod yX0_remember, Cond.selects RX0 yX0_remember yX0_remember, Cond.code yX0_remember cX0_remember 2 none, Cond.methodLink RX0 25 yJ9_floorMod_7cf53, Cond.static yJ9_floorMod_7cf53, Cond.initialized RJ9, Cond.code yJ9_floorMod_7cf53 cJ9_floorMod_7cf53 3 (some .int), Cond.methodLink RX0 31 yX0_behindLast, Cond.instanceMethod yX0_behindLast, Cond.selects RX0 yX0_behindLast yX0_behindLast, Cond.code yX0_behindLast cX0_behindLast 1 (some .int), Cond.methodLink RX0 35 yX3_copyFrom, Cond.instanceMethod yX3_copyFrom, Cond.selects RX3 yX3_copyFrom yX3_copyFrom, Cond.code yX3_copyFrom cX3_copyFrom 2 none, Cond.methodLink RX3 53 arraycopyName, Cond.native arraycopyName, Cond.static arraycopyName, Cond.initialized "java/lang/System", Cond.methodLink RX8 134 yX3_bringTo, Cond.instanceMethod yX3_bringTo, Cond.selects RX3 yX3_bringTo yX3_bringTo, Cond.code yX3_bringTo cX3_bringTo 4 none]
def wsL_law_r17 : List Cond := [Cond.methodLink RL 46 yX9_take, Cond.instanceMethod yX9_take, Cond.selects RX9 yX9_take yX9_take, Cond.code yX9_take cX9_take 3 (some .int), Cond.methodLink RX9 141 yX9_canTake, Cond.instanceMethod yX9_canTake, Cond.selects RX9 yX9_canTake yX9_canTake, Cond.code yX9_canTake cX9_canTake 3 (some .boolean), Cond.methodLink RX9 137 yX9_isBorne, Cond.instanceMethod yX9_isBorne, Cond.selects RX9 yX9_isBorne yX9_isBorne, Cond.code yX9_isBorne cX9_isBorne 5 (some .boolean), Cond.methodLink RX9 159 yX9_keepAct, Cond.instanceMethod yX9_keepAct, Cond.selects RX9 yX9_keepAct yX9_keepAct, Cond.code yX9_keepAct cX9_keepAct 3 none, Cond.fieldLink RX9 156 "ShipFromItselfModel" "next" "I", Cond.methodLink RL 47 yX8_put, Cond.instanceMethod yX8_put, Cond.selects RX8 yX8_put yX8_put, Cond.code yX8_put cX8_put 3 (some .int), Cond.methodLink RX8 138 yX2_fits, Cond.instanceMethod yX2_fits, Cond.selects RX2 yX2_fits yX2_fits]
def wsL_law_r18 : List Cond := [Cond.code yX2_fits cX2_fits 5 (some .boolean), Cond.methodLink RX2 63 yX2_isPlace, Cond.methodLink RX2 66 yX3_lengthOf, Cond.methodLink RX2 69 yX2_lengthOf, Cond.methodLink RX8 142 yX8_bringInto, Cond.instanceMethod yX8_bringInto, Cond.selects RX8 yX8_bringInto yX8_bringInto, Cond.code yX8_bringInto cX8_bringInto 3 (some .int), Cond.methodLink RX8 246 yX2_bringInto, Cond.instanceMethod yX2_bringInto, Cond.selects RX2 yX2_bringInto yX2_bringInto, Cond.code yX2_bringInto cX2_bringInto 4 none, Cond.methodLink RX2 81 yX3_bringTo, Cond.methodLink RX2 85 yX3_cutTo, Cond.instanceMethod yX3_cutTo, Cond.selects RX3 yX3_cutTo yX3_cutTo, Cond.code yX3_cutTo cX3_cutTo 3 none, Cond.methodLink RL 50 yX9_put, Cond.instanceMethod yX9_put, Cond.selects RX9 yX9_put yX9_put, Cond.code yX9_put cX9_put 3 (some .int), Cond.methodLink RX9 144 yX9_canPut, Cond.instanceMethod yX9_canPut, Cond.selects RX9 yX9_canPut yX9_canPut]
def wsL_law_r19 : List Cond := [Cond.code yX9_canPut cX9_canPut 4 (some .boolean), Cond.methodLink RL 51 yX8_move, Cond.instanceMethod yX8_move, Cond.selects RX8 yX8_move yX8_move, Cond.code yX8_move cX8_move 3 (some .int), Cond.methodLink RX8 146 yX2_mayBeMoved, Cond.instanceMethod yX2_mayBeMoved, Cond.selects RX2 yX2_mayBeMoved yX2_mayBeMoved, Cond.code yX2_mayBeMoved cX2_mayBeMoved 5 (some .boolean), Cond.methodLink RX2 70 yX3_whereIs, Cond.methodLink RX2 73 yX2_fits, Cond.methodLink RX2 77 yX2_mayBeTakenFrom, Cond.methodLink RL 54 yX9_move, Cond.instanceMethod yX9_move, Cond.selects RX9 yX9_move yX9_move, Cond.code yX9_move cX9_move 3 (some .int), Cond.methodLink RX9 162 yX9_copy, Cond.instanceMethod yX9_copy, Cond.selects RX9 yX9_copy yX9_copy, Cond.code yX9_copy cX9_copy 4 none, Cond.methodLink RX9 166 yX9_goes, Cond.instanceMethod yX9_goes, Cond.selects RX9 yX9_goes yX9_goes, Cond.code yX9_goes cX9_goes 5 (some .boolean)]
def wsL_law_r20 : List Cond := [Cond.methodLink RL 55 yX8_watch, Cond.instanceMethod yX8_watch, Cond.selects RX8 yX8_watch yX8_watch, Cond.code yX8_watch cX8_watch 1 (some .int), Cond.methodLink RX8 149 yX2_passWatch, Cond.instanceMethod yX2_passWatch, Cond.selects RX2 yX2_passWatch yX2_passWatch, Cond.code yX2_passWatch cX2_passWatch 2 none, Cond.methodLink RX2 95 Lib.Math.max.name, Cond.static Lib.Math.max.name, Cond.initialized "java/lang/Math", Cond.code Lib.Math.max.name Lib.Math.max.code 2 (some .int), Cond.methodLink RX2 88 yX3_waterInside, Cond.instanceMethod yX3_waterInside, Cond.selects RX3 yX3_waterInside yX3_waterInside, Cond.code yX3_waterInside cX3_waterInside 1 (some .int), Cond.methodLink RX2 91 yX2_leakOf, Cond.instanceMethod yX2_leakOf, Cond.selects RX2 yX2_leakOf yX2_leakOf, Cond.code yX2_leakOf cX2_leakOf 4 (some .int), Cond.methodLink RX2 59 yX2_letsIn, Cond.methodLink RX2 101 yX3_setWater, Cond.instanceMethod yX3_setWater, Cond.selects RX3 yX3_setWater yX3_setWater]
def wsL_law_r21 : List Cond := [Cond.code yX3_setWater cX3_setWater 2 none, Cond.methodLink RX2 105 yX3_sink, Cond.instanceMethod yX3_sink, Cond.selects RX3 yX3_sink yX3_sink, Cond.code yX3_sink cX3_sink 1 none, Cond.methodLink RX2 108 yX2_letWormsEat, Cond.instanceMethod yX2_letWormsEat, Cond.selects RX2 yX2_letWormsEat yX2_letWormsEat, Cond.code yX2_letWormsEat cX2_letWormsEat 4 none, Cond.methodLink RX2 115 yX3_timberIn, Cond.methodLink RX2 118 yX3_wormsIn, Cond.methodLink RX2 121 yX3_addWorm, Cond.instanceMethod yX3_addWorm, Cond.selects RX3 yX3_addWorm yX3_addWorm, Cond.code yX3_addWorm cX3_addWorm 2 none, Cond.methodLink RX2 112 yX2_letComeDown, Cond.instanceMethod yX2_letComeDown, Cond.selects RX2 yX2_letComeDown yX2_letComeDown, Cond.code yX2_letComeDown cX2_letComeDown 3 none, Cond.methodLink RX2 124 yX2_hangsInAir, Cond.instanceMethod yX2_hangsInAir, Cond.selects RX2 yX2_hangsInAir yX2_hangsInAir, Cond.code yX2_hangsInAir cX2_hangsInAir 3 (some .boolean), Cond.methodLink RX8 152 yX3_waterInside]
def wsL_law_r22 : List Cond := [Cond.methodLink RL 58 yX9_watch, Cond.instanceMethod yX9_watch, Cond.selects RX9 yX9_watch yX9_watch, Cond.code yX9_watch cX9_watch 1 (some .int), Cond.methodLink RX9 169 yX9_leakOf, Cond.instanceMethod yX9_leakOf, Cond.selects RX9 yX9_leakOf yX9_leakOf, Cond.code yX9_leakOf cX9_leakOf 5 (some .int), Cond.methodLink RX9 148 yX9_openSet, Cond.instanceMethod yX9_openSet, Cond.selects RX9 yX9_openSet yX9_openSet, Cond.code yX9_openSet cX9_openSet 4 (some .int), Cond.methodLink RX9 172 yX9_gnaw, Cond.instanceMethod yX9_gnaw, Cond.selects RX9 yX9_gnaw yX9_gnaw, Cond.code yX9_gnaw cX9_gnaw 3 none, Cond.methodLink RX9 152 yX9_comeDown, Cond.instanceMethod yX9_comeDown, Cond.selects RX9 yX9_comeDown yX9_comeDown, Cond.code yX9_comeDown cX9_comeDown 5 none, Cond.methodLink RL 59 yX8_back, Cond.instanceMethod yX8_back, Cond.selects RX8 yX8_back yX8_back, Cond.code yX8_back cX8_back 1 (some .int)]
def wsL_law_r23 : List Cond := [Cond.methodLink RX8 155 yX0_size, Cond.instanceMethod yX0_size, Cond.selects RX0 yX0_size yX0_size, Cond.code yX0_size cX0_size 1 (some .int), Cond.methodLink RX8 156 yX0_undoLast, Cond.instanceMethod yX0_undoLast, Cond.selects RX0 yX0_undoLast yX0_undoLast, Cond.code yX0_undoLast cX0_undoLast 2 none, Cond.methodLink RL 62 yX9_back, Cond.instanceMethod yX9_back, Cond.selects RX9 yX9_back yX9_back, Cond.code yX9_back cX9_back 3 (some .int), Cond.methodLink RL 63 yX8_leak, Cond.instanceMethod yX8_leak, Cond.selects RX8 yX8_leak yX8_leak, Cond.code yX8_leak cX8_leak 1 (some .int), Cond.methodLink RX8 159 yX2_leakOf, Cond.methodLink RL 66 yX9_leak, Cond.instanceMethod yX9_leak, Cond.selects RX9 yX9_leak yX9_leak, Cond.code yX9_leak cX9_leak 1 (some .int), Cond.methodLink RL 67 yX8_floats, Cond.instanceMethod yX8_floats, Cond.selects RX8 yX8_floats yX8_floats]
def wsL_law_r24 : List Cond := [Cond.code yX8_floats cX8_floats 1 (some .int), Cond.methodLink RX8 163 yX3_copyFrom, Cond.methodLink RX8 166 yX2_watchesAfloat, Cond.instanceMethod yX2_watchesAfloat, Cond.selects RX2 yX2_watchesAfloat yX2_watchesAfloat, Cond.code yX2_watchesAfloat cX2_watchesAfloat 3 (some .int), Cond.methodLink RX2 138 Lib.Math.min.name, Cond.static Lib.Math.min.name, Cond.code Lib.Math.min.name Lib.Math.min.code 2 (some .int), Cond.methodLink RX2 127 yX3_isSunk, Cond.methodLink RX2 131 yX2_isAtRest, Cond.instanceMethod yX2_isAtRest, Cond.selects RX2 yX2_isAtRest yX2_isAtRest, Cond.code yX2_isAtRest cX2_isAtRest 3 (some .boolean), Cond.methodLink RX2 135 yX2_watchesAtRest, Cond.instanceMethod yX2_watchesAtRest, Cond.selects RX2 yX2_watchesAtRest yX2_watchesAtRest, Cond.code yX2_watchesAtRest cX2_watchesAtRest 3 (some .int), Cond.methodLink RX2 141 yX2_passWatch, Cond.methodLink RL 70 yX9_floats, Cond.instanceMethod yX9_floats, Cond.selects RX9 yX9_floats yX9_floats, Cond.code yX9_floats cX9_floats 1 (some .int), Cond.methodLink RX9 175 yX9_floatsOf]
def wsL_law_r25 : List Cond := [Cond.instanceMethod yX9_floatsOf, Cond.selects RX9 yX9_floatsOf yX9_floatsOf, Cond.code yX9_floatsOf cX9_floatsOf 5 (some .int), Cond.methodLink RL 71 yX8_harm, Cond.instanceMethod yX8_harm, Cond.selects RX8 yX8_harm yX8_harm, Cond.code yX8_harm cX8_harm 2 (some .int), Cond.methodLink RX8 169 yX3_isOpen, Cond.methodLink RX8 172 yX2_letComeDown, Cond.methodLink RL 74 yX9_harm, Cond.instanceMethod yX9_harm, Cond.selects RX9 yX9_harm yX9_harm, Cond.code yX9_harm cX9_harm 3 (some .int), Cond.methodLink RL 75 yX8_may, Cond.instanceMethod yX8_may, Cond.selects RX8 yX8_may yX8_may, Cond.code yX8_may cX8_may 3 (some .int), Cond.methodLink RL 78 yX9_may, Cond.instanceMethod yX9_may, Cond.selects RX9 yX9_may yX9_may, Cond.code yX9_may cX9_may 3 (some .int), Cond.methodLink RL 79 yX8_best, Cond.instanceMethod yX8_best, Cond.selects RX8 yX8_best yX8_best]
def wsL_law_r26 : List Cond := [Cond.code yX8_best cX8_best 3 (some .int), Cond.methodLink RX8 175 yX8_refusalOfBest, Cond.instanceMethod yX8_refusalOfBest, Cond.selects RX8 yX8_refusalOfBest yX8_refusalOfBest, Cond.code yX8_refusalOfBest cX8_refusalOfBest 2 (some .int), Cond.methodLink RX8 178 yX5_leastLeak, Cond.instanceMethod yX5_leastLeak, Cond.selects RX5 yX5_leastLeak yX5_leastLeak, Cond.code yX5_leastLeak cX5_leastLeak 7 (some .int), Cond.constant RX5 46 (1000000), Cond.methodLink RX5 36 yX2_leakOf, Cond.methodLink RX5 42 yX4_begin, Cond.instanceMethod yX4_begin, Cond.selects RX4 yX4_begin yX4_begin, Cond.code yX4_begin cX4_begin 3 none, Cond.methodLink RX4 38 Lib.Math.min.name, Cond.methodLink RX4 44 Lib.Math.max.name, Cond.methodLink RX4 34 yX3_copyFrom, Cond.methodLink RX5 47 yX4_next, Cond.instanceMethod yX4_next, Cond.selects RX4 yX4_next yX4_next, Cond.code yX4_next cX4_next 4 (some .boolean), Cond.constant RX4 53 (1000000), Cond.methodLink RX4 54 yX4_makeNextMove]
def wsL_law_r27 : List Cond := [Cond.instanceMethod yX4_makeNextMove, Cond.selects RX4 yX4_makeNextMove yX4_makeNextMove, Cond.code yX4_makeNextMove cX4_makeNextMove 5 (some .boolean), Cond.methodLink RX4 58 yX2_mayBeMoved, Cond.methodLink RX4 64 yX2_bringInto, Cond.methodLink RX5 51 yX4_end, Cond.instanceMethod yX4_end, Cond.selects RX4 yX4_end yX4_end, Cond.code yX4_end cX4_end 1 (some (.object "ShipFromItself$Load")), Cond.methodLink RX5 55 yX4_copyTo, Cond.instanceMethod yX4_copyTo, Cond.selects RX4 yX4_copyTo yX4_copyTo, Cond.code yX4_copyTo cX4_copyTo 2 none, Cond.methodLink RX4 47 arraycopyName, Cond.methodLink RL 82 yX9_best, Cond.instanceMethod yX9_best, Cond.selects RX9 yX9_best yX9_best, Cond.code yX9_best cX9_best 2 (some .int), Cond.constantLong RX9 187 (2), Cond.fieldLink RX9 181 "ShipFromItselfModel" "foundLeak" "I", Cond.methodLink RX9 189 yX9_layBest, Cond.instanceMethod yX9_layBest, Cond.selects RX9 yX9_layBest yX9_layBest, Cond.code yX9_layBest cX9_layBest 3 none]
def wsL_law_r28 : List Cond := [Cond.fieldLink RX9 178 "ShipFromItselfModel" "foundMany" "I", Cond.methodLink RX9 184 yX9_laySecond, Cond.instanceMethod yX9_laySecond, Cond.selects RX9 yX9_laySecond yX9_laySecond, Cond.code yX9_laySecond cX9_laySecond 3 none, Cond.methodLink RL 83 yX8_bestAt, Cond.instanceMethod yX8_bestAt, Cond.selects RX8 yX8_bestAt yX8_bestAt, Cond.code yX8_bestAt cX8_bestAt 4 (some .int), Cond.methodLink RX8 182 yX5_foundMove, Cond.instanceMethod yX5_foundMove, Cond.selects RX5 yX5_foundMove yX5_foundMove, Cond.code yX5_foundMove cX5_foundMove 2 (some .int), Cond.methodLink RL 86 yX9_bestAt, Cond.instanceMethod yX9_bestAt, Cond.selects RX9 yX9_bestAt yX9_bestAt, Cond.code yX9_bestAt cX9_bestAt 3 (some .int), Cond.methodLink RL 87 yX8_port, Cond.instanceMethod yX8_port, Cond.selects RX8 yX8_port yX8_port, Cond.code yX8_port cX8_port 3 (some .int), Cond.methodLink RX8 185 yX8_refusalOfPort, Cond.instanceMethod yX8_refusalOfPort, Cond.selects RX8 yX8_refusalOfPort yX8_refusalOfPort]
def wsL_law_r29 : List Cond := [Cond.code yX8_refusalOfPort cX8_refusalOfPort 2 (some .int), Cond.methodLink RX8 188 yX5_fewestMoves, Cond.instanceMethod yX5_fewestMoves, Cond.selects RX5 yX5_fewestMoves yX5_fewestMoves, Cond.code yX5_fewestMoves cX5_fewestMoves 5 (some .int), Cond.methodLink RX5 59 yX3_copyFrom, Cond.methodLink RX5 65 yX2_watchesAfloat, Cond.methodLink RL 90 yX9_port, Cond.instanceMethod yX9_port, Cond.selects RX9 yX9_port yX9_port, Cond.code yX9_port cX9_port 2 (some .int), Cond.constantLong RX9 195 (99), Cond.methodLink RX9 197 yX9_layPort, Cond.instanceMethod yX9_layPort, Cond.selects RX9 yX9_layPort yX9_layPort, Cond.code yX9_layPort cX9_layPort 3 (some .int), Cond.methodLink RX9 192 yX9_isPort, Cond.instanceMethod yX9_isPort, Cond.selects RX9 yX9_isPort yX9_isPort, Cond.code yX9_isPort cX9_isPort 3 (some .boolean), Cond.methodLink RL 91 yX8_portAt, Cond.instanceMethod yX8_portAt, Cond.selects RX8 yX8_portAt yX8_portAt, Cond.code yX8_portAt cX8_portAt 4 (some .int)]
def wsL_law_r30 : List Cond := [Cond.methodLink RL 94 yX9_portAt, Cond.instanceMethod yX9_portAt, Cond.selects RX9 yX9_portAt yX9_portAt, Cond.code yX9_portAt cX9_portAt 3 (some .int), Cond.methodLink RL 95 yX8_storm, Cond.instanceMethod yX8_storm, Cond.selects RX8 yX8_storm yX8_storm, Cond.code yX8_storm cX8_storm 5 (some .long), Cond.constantLong RX8 191 (-2), Cond.methodLink RX8 193 yX1_begin, Cond.instanceMethod yX1_begin, Cond.selects RX1 yX1_begin yX1_begin, Cond.code yX1_begin cX1_begin 3 none, Cond.methodLink RX8 197 yX1_tearOut, Cond.instanceMethod yX1_tearOut, Cond.selects RX1 yX1_tearOut yX1_tearOut, Cond.code yX1_tearOut cX1_tearOut 7 none, Cond.constantLong RX1 19 (10), Cond.methodLink RX8 200 yX1_upTo, Cond.instanceMethod yX1_upTo, Cond.selects RX1 yX1_upTo yX1_upTo, Cond.code yX1_upTo cX1_upTo 5 (some .long), Cond.methodLink RX8 204 yX1_all, Cond.instanceMethod yX1_all]
def wsL_law_r31 : List Cond := [Cond.selects RX1 yX1_all yX1_all, Cond.code yX1_all cX1_all 1 (some .long), Cond.methodLink RX8 208 yX8_leastTerms, Cond.static yX8_leastTerms, Cond.code yX8_leastTerms cX8_leastTerms 7 (some .long), Cond.methodLink RX8 249 yX8_commonDivisor, Cond.static yX8_commonDivisor, Cond.code yX8_commonDivisor cX8_commonDivisor 11 (some .long), Cond.methodLink RL 99 yX9_storm, Cond.instanceMethod yX9_storm, Cond.selects RX9 yX9_storm yX9_storm, Cond.code yX9_storm cX9_storm 9 (some .long), Cond.constantLong RX9 200 (10), Cond.constantLong RX9 202 (-2), Cond.methodLink RX9 204 yX9_part, Cond.static yX9_part, Cond.code yX9_part cX9_part 11 (some .long), Cond.methodLink RL 100 yX8_share, Cond.instanceMethod yX8_share, Cond.selects RX8 yX8_share yX8_share, Cond.code yX8_share cX8_share 7 (some .int), Cond.methodLink RL 104 yX9_share, Cond.instanceMethod yX9_share, Cond.selects RX9 yX9_share yX9_share]
def wsL_law_r32 : List Cond := [Cond.code yX9_share cX9_share 6 (some .int), Cond.methodLink RL 105 yX8_log, Cond.instanceMethod yX8_log, Cond.selects RX8 yX8_log yX8_log, Cond.code yX8_log cX8_log 3 (some .int), Cond.methodLink RX8 212 yX5_rowsTo, Cond.instanceMethod yX5_rowsTo, Cond.selects RX5 yX5_rowsTo yX5_rowsTo, Cond.code yX5_rowsTo cX5_rowsTo 6 (some .int), Cond.methodLink RX5 68 yX2_openPlaces, Cond.instanceMethod yX2_openPlaces, Cond.selects RX2 yX2_openPlaces yX2_openPlaces, Cond.code yX2_openPlaces cX2_openPlaces 4 (some .int), Cond.methodLink RX5 71 yX5_lastMovesTo, Cond.instanceMethod yX5_lastMovesTo, Cond.selects RX5 yX5_lastMovesTo yX5_lastMovesTo, Cond.code yX5_lastMovesTo cX5_lastMovesTo 8 (some .int), Cond.methodLink RX5 75 yJ6_bitCount_0f7a4, Cond.static yJ6_bitCount_0f7a4, Cond.initialized RJ6, Cond.code yJ6_bitCount_0f7a4 cJ6_bitCount_0f7a4 1 (some .int), Cond.constant RJ6 265 (1431655765), Cond.constant RJ6 266 (858993459), Cond.constant RJ6 267 (252645135)]
def wsL_law_r33 : List Cond := [Cond.methodLink RX5 81 yJ6_numberOfTrailingZeros_0f7a4, Cond.static yJ6_numberOfTrailingZeros_0f7a4, Cond.code yJ6_numberOfTrailingZeros_0f7a4 cJ6_numberOfTrailingZeros_0f7a4 2 (some .int), Cond.constant RJ6 264 (65536), Cond.methodLink RX5 84 yX2_places, Cond.methodLink RX5 88 yX2_mayBeMoved, Cond.methodLink RX5 92 yX3_whereIs, Cond.methodLink RX5 95 yX5_bitOf, Cond.static yX5_bitOf, Cond.code yX5_bitOf cX5_bitOf 1 (some .int), Cond.methodLink RL 108 yX9_log, Cond.instanceMethod yX9_log, Cond.selects RX9 yX9_log yX9_log, Cond.code yX9_log cX9_log 5 (some .int), Cond.constantLong RX9 208 (3), Cond.methodLink RX9 210 yX9_logFrom, Cond.instanceMethod yX9_logFrom, Cond.selects RX9 yX9_logFrom yX9_logFrom, Cond.code yX9_logFrom cX9_logFrom 6 (some .int), Cond.methodLink RX9 214 yX9_logLast, Cond.instanceMethod yX9_logLast, Cond.selects RX9 yX9_logLast yX9_logLast, Cond.code yX9_logLast cX9_logLast 4 (some .int), Cond.methodLink RL 109 yX8_keep]
def wsL_law_r34 : List Cond := [Cond.instanceMethod yX8_keep, Cond.selects RX8 yX8_keep yX8_keep, Cond.code yX8_keep cX8_keep 2 (some .int), Cond.methodLink RX8 216 yX6_isSlot, Cond.instanceMethod yX6_isSlot, Cond.selects RX6 yX6_isSlot yX6_isSlot, Cond.code yX6_isSlot cX6_isSlot 2 (some .boolean), Cond.methodLink RX8 219 yX6_store, Cond.instanceMethod yX6_store, Cond.selects RX6 yX6_store yX6_store, Cond.code yX6_store cX6_store 3 none, Cond.methodLink RX6 22 yX6_isSlot, Cond.methodLink RX6 26 yX3_copyFrom, Cond.methodLink RL 112 yX9_keep, Cond.instanceMethod yX9_keep, Cond.selects RX9 yX9_keep yX9_keep, Cond.code yX9_keep cX9_keep 3 (some .int), Cond.methodLink RL 113 yX8_again, Cond.instanceMethod yX8_again, Cond.selects RX8 yX8_again yX8_again, Cond.code yX8_again cX8_again 2 (some .int), Cond.methodLink RX8 223 yX6_isFilled, Cond.instanceMethod yX6_isFilled, Cond.selects RX6 yX6_isFilled yX6_isFilled]
def wsL_law_r35 : List Cond := [Cond.code yX6_isFilled cX6_isFilled 2 (some .boolean), Cond.methodLink RX8 226 yX6_bringBack, Cond.instanceMethod yX6_bringBack, Cond.selects RX6 yX6_bringBack yX6_bringBack, Cond.code yX6_bringBack cX6_bringBack 3 none, Cond.methodLink RX6 30 yX6_isFilled, Cond.methodLink RL 116 yX9_again, Cond.instanceMethod yX9_again, Cond.selects RX9 yX9_again yX9_again, Cond.code yX9_again cX9_again 3 (some .int), Cond.methodLink RL 117 yX8_count, Cond.instanceMethod yX8_count, Cond.selects RX8 yX8_count yX8_count, Cond.code yX8_count cX8_count 2 (some .int), Cond.methodLink RX8 229 yX2_openPlaces, Cond.methodLink RX8 232 yJ6_bitCount_0f7a4, Cond.methodLink RX8 237 yX8_timbersThatAre, Cond.instanceMethod yX8_timbersThatAre, Cond.selects RX8 yX8_timbersThatAre yX8_timbersThatAre, Cond.code yX8_timbersThatAre cX8_timbersThatAre 4 (some .int), Cond.methodLink RX8 240 yX2_pumps, Cond.instanceMethod yX2_pumps, Cond.selects RX2 yX2_pumps yX2_pumps, Cond.code yX2_pumps cX2_pumps 1 (some .int)]
def wsL_law_r36 : List Cond := [Cond.methodLink RX8 243 yX2_hold, Cond.instanceMethod yX2_hold, Cond.selects RX2 yX2_hold yX2_hold, Cond.code yX2_hold cX2_hold 1 (some .int), Cond.methodLink RL 120 yX9_count, Cond.instanceMethod yX9_count, Cond.selects RX9 yX9_count yX9_count, Cond.code yX9_count cX9_count 6 (some .int)]
def wsL_law : List Cond := (wsL_law_r1 ++ (wsL_law_r2 ++ (wsL_law_r3 ++ (wsL_law_r4 ++ (wsL_law_r5 ++ (wsL_law_r6 ++ (wsL_law_r7 ++ (wsL_law_r8 ++ (wsL_law_r9 ++ (wsL_law_r10 ++ (wsL_law_r11 ++ (wsL_law_r12 ++ (wsL_law_r13 ++ (wsL_law_r14 ++ (wsL_law_r15 ++ (wsL_law_r16 ++ (wsL_law_r17 ++ (wsL_law_r18 ++ (wsL_law_r19 ++ (wsL_law_r20 ++ (wsL_law_r21 ++ (wsL_law_r22 ++ (wsL_law_r23 ++ (wsL_law_r24 ++ (wsL_law_r25 ++ (wsL_law_r26 ++ (wsL_law_r27 ++ (wsL_law_r28 ++ (wsL_law_r29 ++ (wsL_law_r30 ++ (wsL_law_r31 ++ (wsL_law_r32 ++ (wsL_law_r33 ++ (wsL_law_r34 ++ (wsL_law_r35 ++ wsL_law_r36))))))))))))))))))))))))))))))))))) ++ wsX80 ++ wsX90 ++ wsX70 ++ wsX20 ++ wsX30 ++ wsX00 ++ wsX60 ++ wsX10 ++ wsX50 ++ wsX40 ++ ([] : List Cond)
abbrev vwCl : List vw_C := [(RX0, TX0, 3), (RX1, TX1, 2), (RX2, TX2, 7), (RX3, TX3, 6), (RX4, TX4, 5), (RX5, TX5, 5), (RX6, TX6, 2), (RX7, TX7, 2), (RX8, TX8, 8), (RX9, TX9, 35)]
end
section
/-! THE WORLD BY NUMBERED CELLS: cell i stands at the address ad i and holds F i; the list of all N cells is the world of every method (no frame is cut out: what a method changes, it says of F) -/
abbrev Gx : Type := (Nat → ClassId) × (Nat → Nat → Nat) × (Nat → ClassId)
def gD (g : Gx) : va_G := (g.1, g.2.1)
def gT (g : Gx) : List (ClassId × FieldType) := [(g.2.2 0, .int), (g.2.2 1, .byte), (g.2.2 2, .long), (g.2.2 3, .boolean), (g.2.2 4, .object "ShipFromItself$Load")]
def wl (N : Nat) (ad : Nat → Nat) (F : Nat → va_E) : va_W := (List.range N).map (fun i => (ad i, F i))
theorem wl_at {N : Nat} {ad : Nat → Nat} {F : Nat → va_E} {i : Nat} (h : i < N) : (wl N ad F)[i]? = some (ad i, F i) := by
  simp [wl, h]
theorem wl_set {N : Nat} {ad : Nat → Nat} {F : Nat → va_E} {i : Nat} (h : i < N) (e : va_E) : (wl N ad F).set i (ad i, e) = wl N ad (va_up F i e) := by
  apply List.ext_getElem?
  intro j
  by_cases hj : j = i
  · subst hj
    rw [List.getElem?_set_self (by simp [wl, h])]
    simp [wl, h, va_up]
  · rw [List.getElem?_set_ne (Ne.symm hj)]
    by_cases hn : j < N
    · simp [wl, hn, va_up, hj]
    · simp [wl, hn]
theorem wl_push {N : Nat} {ad : Nat → Nat} {F : Nat → va_E} (q : Nat) (e : va_E) : wl N ad F ++ [(q, e)] = wl (N + 1) (va_up ad N q) (va_up F N e) := by
  apply List.ext_getElem?
  intro j
  by_cases hj : j < N
  · rw [List.getElem?_append_left (by simp [wl, hj])]
    have h1 : j < N + 1 := by omega
    have h2 : j ≠ N := by omega
    simp [wl, hj, h1, va_up, h2]
  · rw [List.getElem?_append_right (by simp [wl]; omega)]
    by_cases h2 : j = N
    · subst h2
      simp [wl, va_up]
    · have h3 : ¬ j < N + 1 := by omega
      have h4 : j - N ≠ 0 := by omega
      simp [wl, h3]
      omega
/-- the world at a state; and along a walk -/
def Wd (g : Gx) (lo N : Nat) (ad : Nat → Nat) (F : Nat → va_E) (U : State) : Prop := va_K (gD g) vwCl (gT g) U ∧ va_P (gD g) vwCl (wl N ad F) U.heap ∧ va_D (fun q => lo ≤ q) (wl N ad F)
def Cu (g : Gx) (lo N : Nat) (ad : Nat → Nat) (F : Nat → va_E) (s : State) (H0 H : Heap) (locs : List Loc) : Prop := va_K (gD g) vwCl (gT g) s ∧ va_P (gD g) vwCl (wl N ad F) H ∧ va_D (fun q => lo ≤ q) (wl N ad F) ∧ va_S (fun q => lo ≤ q) H0 H locs
/-- a method's frame: the machine, its code, the tables' words -/
def Bx (p : Program) (s : State) (m : MethodId) (meth : Method) (c : Code) (cc : ByteArray) (nL : Nat) (ret : Option FieldType) (own : String) (ws : List Cond) (args : Array Value) : Prop :=
  p.tables.exec = Jvm.exec ∧ c.code = cc ∧ c.maxLocals = nL ∧ s.vm.findClass own = some m.cls ∧ (∀ w ∈ ws, w.before args s = true) ∧ meth.sig.returnType = ret ∧ meth.locks = false
/-- contracts of methods that make no cell: int, long, boolean or void -/
def MI (l : Launch) (g : Gx) (lo N : Nat) (ad : Nat → Nat) (y : MethodName) (ws : List Cond) (fr lc : Nat) (args : List Value) (F : Nat → va_E) (post : Int32 → (Nat → va_E) → Prop) : Prop :=
  Met l y ws { frames := fr, cells := 0, slots := 0, locals := lc } (va_Pc args (Wd g lo N ad F)) (va_Qi post (fun F' t => Wd g lo N ad F' t) (fun q => lo ≤ q)) 0 0 (fun q => lo ≤ q)
def ML (l : Launch) (g : Gx) (lo N : Nat) (ad : Nat → Nat) (y : MethodName) (ws : List Cond) (fr lc : Nat) (args : List Value) (F : Nat → va_E) (post : Int64 → (Nat → va_E) → Prop) : Prop :=
  Met l y ws { frames := fr, cells := 0, slots := 0, locals := lc } (va_Pc args (Wd g lo N ad F)) (va_Ql post (fun F' t => Wd g lo N ad F' t) (fun q => lo ≤ q)) 0 0 (fun q => lo ≤ q)
def MV (l : Launch) (g : Gx) (lo N : Nat) (ad : Nat → Nat) (y : MethodName) (ws : List Cond) (fr lc : Nat) (args : List Value) (F : Nat → va_E) (post : (Nat → va_E) → Prop) : Prop :=
  Met l y ws { frames := fr, cells := 0, slots := 0, locals := lc } (va_Pc args (Wd g lo N ad F)) (va_Qv post (fun F' t => Wd g lo N ad F' t) (fun q => lo ≤ q)) 0 0 (fun q => lo ≤ q)
/-- an answer that is the cell number of an object -/
def MR (l : Launch) (g : Gx) (lo N : Nat) (ad : Nat → Nat) (y : MethodName) (ws : List Cond) (fr lc : Nat) (args : List Value) (F : Nat → va_E) (i : Nat) : Prop :=
  Met l y ws { frames := fr, cells := 0, slots := 0, locals := lc } (va_Pc args (Wd g lo N ad F)) (va_Qr (fun F' : Nat → va_E => F' = F) (fun F' a t => a = ad i ∧ Wd g lo N ad F' t) (fun q => lo ≤ q)) 0 0 (fun q => lo ≤ q)
theorem wd_blind {g : Gx} {lo N : Nat} {ad : Nat → Nat} {F : Nat → va_E} {av : List Value} : FrameBlind (va_Pc av (Wd g lo N ad F)) := fun a U g' mk q => by
  obtain ⟨q0, qK, qP, qD⟩ := q
  exact ⟨q0, va_K.moved (u := U) (U := U.calling g' mk a) (Vm.Alike.refl U.vm) qK, qP, qD⟩
theorem met_ofW {y : MethodName} {ws ws' : List Cond} {rm : Room} {Pc : Array Value → State → Prop} {Qc : Array Value → State → Outcome → State → Prop} {mc ms : Nat} {free : Addr → Prop} {cc : ByteArray} {maxL : Nat} {ret : Option FieldType} {l : Launch}
    (hy : plainFor y = true) (hw : ws = Cond.code y cc maxL ret :: ws')
    (body : ∀ p e s m args below meth c s₁, BodyLoose p l y (headSpec ws rm) cc maxL ret e s m args below meth c s₁ → c.maxLocals = maxL → Pc args s →
      W p l e (headSpec ws rm).room s m args below meth c s.heap [] 0 0 (MQ below Qc args s mc ms free) (entryFrame m args maxL)) : Met l y ws rm Pc Qc mc ms free := by
  refine MetFree.of_bodySF (code := cc) (maxLocals := maxL) (ret := ret) hy ?_ ?_
  · intro args s m h hn
    obtain ⟨meth, c, h1, h2, h3, h4, h5, h6, -, -⟩ := Cond.code_spec hn (atoms_spec (ws := ws) h _ (by rw [hw]; exact List.mem_cons_self))
    exact ⟨meth, c, h1, h2, h3, h4, h5, h6⟩
  · intro p e s m args below meth c s₁ B hml hP _
    have hh0 : s₁.heap = s.heap := by rw [B.state]; rfl
    obtain ⟨t, a1, o, b1, b2, b3⟩ := body p e s m args below meth c s₁ B hml hP s₁ hh0 (Stand.of_body B)
    exact ⟨t, o, a1, b1, b2, ⟨b3.1, b3.2⟩⟩
theorem enter {y : MethodName} {ws ws' : List Cond} {rm : Room} {Qc : Array Value → State → Outcome → State → Prop} {mc ms : Nat} {free : Addr → Prop} {cc : ByteArray} {maxL : Nat} {ret : Option FieldType} {l : Launch} {g : Gx} {lo N : Nat} {ad : Nat → Nat} {F : Nat → va_E} {av : List Value}
    {own : String} (hy : plainFor y = true) (ho : y.cls = own) (hw : ws = Cond.code y cc maxL ret :: ws') (hn : (lg_sl av).length ≤ maxL)
    (body : ∀ p e s m below meth c, Bx p s m meth c cc maxL ret own ws av.toArray → (y.name = "<init>" → meth.name = "<init>") → Cu g lo N ad F s s.heap s.heap [] → ∀ ls, lv_has ls maxL (lv_args 0 av) →
      W p l e rm s m av.toArray below meth c s.heap [] 0 0 (MQ below Qc av.toArray s mc ms free) (F0 m 0 ls [])) : Met l y ws rm (va_Pc av (Wd g lo N ad F)) Qc mc ms free := by
  refine met_ofW (cc := cc) (maxL := maxL) (ret := ret) hy hw ?_
  intro p e s m args below meth c s₁ B hml hv
  obtain ⟨rfl, hK, hP, hD⟩ := hv
  rw [lg_entry_eq]
  refine body p e s m below meth c ⟨B.exec, B.bytes, hml, ho ▸ findClass_of_methodNamed B.named, atoms_spec (ws := ws) B.pre, B.returns, B.notSynchronized⟩ (fun h => ?_) ⟨hK, hP, hD, va_S.rf⟩ _ (lv_entry av hn)
  rw [(name_of_methodNamed B.named B.method).1]; exact h
section CELLS
variable {p : Program} {l : Launch} {e : Env} {R : Room} {s : State} {m : MethodId} {args : Array Value} {below : List Frame} {meth : Method} {c : Code} {H : Heap} {locs : List Loc} {cells slots : Nat} {Q : State → Prop}
variable {cc : ByteArray} {pc : Nat} {ls : Array Slot} {rest : List Value} {nL : Nat} {ret : Option FieldType} {own : String} {Ts : List Cond}
variable {g : Gx} {lo N : Nat} {ad : Nat → Nat} {F : Nat → va_E} {H0 : Heap}
theorem r_cg (B : Bx p s m meth c cc nL ret own Ts args) (hC : Cu g lo N ad F s H0 H locs) {i : Nat} (hi : i < N) {ci : Nat} {fs : List Value} (he : F i = .inr (ci, fs)) {C : String} {T : u_T} {n : Nat} (hc : vwCl[ci]? = some (C, T, n)) (hin : ∀ w ∈ u_ws C T n, w ∈ Ts) (k : Nat) (hk : k < n) {index : Nat} (hlk : Cond.fieldLink own index C (T k).2.1 (T k).2.2.1 ∈ Ts) (hCk : (T k).1 = C) {v : Value} (hv : fs[k]? = some v) (hdg : decode cc pc = .ok (.getfield index, 3))
    (kk : W p l e R s m args below meth c H locs cells slots Q (F0 m (pc + 3) ls (v :: rest))) : W p l e R s m args below meth c H locs cells slots Q (F0 m pc ls (.ref (ad i) :: rest)) := by
  obtain ⟨hK, hP, -, -⟩ := hC
  obtain ⟨hx, hb, -, hown, hts, -⟩ := B
  exact va_get (D := gD g) (ci := ci) (v := v) (C := C) (T := T) (N := n) hx hb hts hin hown hK hP i (fs := fs) (by rw [wl_at hi, he]) hc k hk (hts _ hlk) (fun x9 h9 => by rw [hCk] at h9; exact h9) hv hdg kk
theorem r_cp (B : Bx p s m meth c cc nL ret own Ts args) (hC : Cu g lo N ad F s H0 H locs) {i : Nat} (hi : i < N) {ci : Nat} {fs : List Value} (he : F i = .inr (ci, fs)) {C : String} {T : u_T} {n : Nat} (ty0 : Nat → FieldType) (hty : ∀ k, k < n → parseFieldDescriptor (T k).2.2.1 = some (ty0 k)) (hnm : ∀ a, a < n → ∀ b, b < n → a ≠ b → (T a).2.1 ≠ (T b).2.1) (hc : vwCl[ci]? = some (C, T, n)) (hin : ∀ w ∈ u_ws C T n, w ∈ Ts) (k : Nat) (hk : k < n) {index : Nat} (hlk : Cond.fieldLink own index C (T k).2.1 (T k).2.2.1 ∈ Ts) (hCk : (T k).1 = C) (hfin : (T k).2.2.2 = false) {v : Value} (hn : narrow (ty0 k) v = v) (hfit : fits (ty0 k) v = true) (hl : k < fs.length) (hdg : decode cc pc = .ok (.putfield index, 3))
    (kk : ∀ (H1 : Heap) (locs1 : List Loc), Cu g lo N ad (va_up F i (.inr (ci, fs.set k v))) s H0 H1 locs1 → W p l e R s m args below meth c H1 locs1 cells slots Q (F0 m (pc + 3) ls rest)) : W p l e R s m args below meth c H locs cells slots Q (F0 m pc ls (v :: .ref (ad i) :: rest)) := by
  obtain ⟨hK, hP, hD, hS⟩ := hC
  obtain ⟨hx, hb, -, hown, hts, -⟩ := B
  refine va_put (D := gD g) (ci := ci) (v := v) (ty := ty0 k) (C := C) (T := T) (N := n) hx hb hts hin ty0 hty hnm hown hK hP hD hS i (fs := fs) (by rw [wl_at hi, he]) hc k hk (hts _ hlk) (fun x9 h9 => by rw [hCk] at h9; exact h9) hfin (hty k hk) hn hfit hl hdg (fun H1 locs1 hP1 hD1 hS1 => ?_)
  rw [wl_set hi] at hP1 hD1
  exact kk H1 locs1 ⟨hK, hP1, hD1, hS1⟩
theorem r_cpF (B : Bx p s m meth c cc nL ret own Ts args) (hin2 : meth.name = "<init>") (hC : Cu g lo N ad F s H0 H locs) {i : Nat} (hi : i < N) {ci : Nat} {fs : List Value} (he : F i = .inr (ci, fs)) {T : u_T} {n : Nat} (ty0 : Nat → FieldType) (hty : ∀ k, k < n → parseFieldDescriptor (T k).2.2.1 = some (ty0 k)) (hnm : ∀ a, a < n → ∀ b, b < n → a ≠ b → (T a).2.1 ≠ (T b).2.1) (hc : vwCl[ci]? = some (own, T, n)) (hin : ∀ w ∈ u_ws own T n, w ∈ Ts) (k : Nat) (hk : k < n) {index : Nat} (hlk : Cond.fieldLink own index own (T k).2.1 (T k).2.2.1 ∈ Ts) (hCk : (T k).1 = own) (hfin : (T k).2.2.2 = true) {v : Value} (hn : narrow (ty0 k) v = v) (hfit : fits (ty0 k) v = true) (hl : k < fs.length) (hdg : decode cc pc = .ok (.putfield index, 3))
    (kk : ∀ (H1 : Heap) (locs1 : List Loc), Cu g lo N ad (va_up F i (.inr (ci, fs.set k v))) s H0 H1 locs1 → W p l e R s m args below meth c H1 locs1 cells slots Q (F0 m (pc + 3) ls rest)) : W p l e R s m args below meth c H locs cells slots Q (F0 m pc ls (v :: .ref (ad i) :: rest)) := by
  obtain ⟨hK, hP, hD, hS⟩ := hC
  obtain ⟨hx, hb, -, hown, hts, -⟩ := B
  refine va_putF (D := gD g) (ci := ci) (v := v) (ty := ty0 k) (C := own) (T := T) (N := n) hx hb hts hin ty0 hty hnm hown hK hP hD hS i (fs := fs) (by rw [wl_at hi, he]) hc k hk (hts _ hlk) (fun x9 h9 => by rw [hCk] at h9; exact h9) hfin hin2 hCk (hty k hk) hn hfit hl hdg (fun H1 locs1 hP1 hD1 hS1 => ?_)
  rw [wl_set hi] at hP1 hD1
  exact kk H1 locs1 ⟨hK, hP1, hD1, hS1⟩
/-- arrays; the index is a number j below the length -/
theorem r_cald (B : Bx p s m meth c cc nL ret own Ts args) (hC : Cu g lo N ad F s H0 H locs) {i : Nat} (hi : i < N) {n : Nat} {f : Nat → Int32} (he : F i = .inl (g.2.2 0, n, .inl f)) {j : Nat} (hj : j < n) (hn : n < 2 ^ 31) (hdg : decode cc pc = .ok (.iaload, 1))
    (kk : W p l e R s m args below meth c H locs cells slots Q (F0 m (pc + 1) ls (.int (f j) :: rest))) : W p l e R s m args below meth c H locs cells slots Q (F0 m pc ls (.int (nI j) :: .ref (ad i) :: rest)) := by
  obtain ⟨hK, hP, -, -⟩ := hC
  refine va_iald B.1 B.2.1 hK hP i 0 (f := f) (by rw [wl_at hi, he]) rfl (vp_in_nI hj hn) hdg ?_
  rw [nI_clamp (Nat.lt_trans hj hn)]; exact kk
theorem r_cbald (B : Bx p s m meth c cc nL ret own Ts args) (hC : Cu g lo N ad F s H0 H locs) {i : Nat} (hi : i < N) {n : Nat} {f : Nat → Int32} (he : F i = .inl (g.2.2 1, n, .inl f)) {j : Nat} (hj : j < n) (hn : n < 2 ^ 31) (hdg : decode cc pc = .ok (.baload, 1))
    (kk : W p l e R s m args below meth c H locs cells slots Q (F0 m (pc + 1) ls (.int (f j) :: rest))) : W p l e R s m args below meth c H locs cells slots Q (F0 m pc ls (.int (nI j) :: .ref (ad i) :: rest)) := by
  obtain ⟨hK, hP, -, -⟩ := hC
  refine va_bald B.1 B.2.1 hK hP i 1 (f := f) (by rw [wl_at hi, he]) rfl (vp_in_nI hj hn) hdg ?_
  rw [nI_clamp (Nat.lt_trans hj hn)]; exact kk
theorem r_czald (B : Bx p s m meth c cc nL ret own Ts args) (hC : Cu g lo N ad F s H0 H locs) {i : Nat} (hi : i < N) {n : Nat} {f : Nat → Int32} (he : F i = .inl (g.2.2 3, n, .inl f)) {j : Nat} (hj : j < n) (hn : n < 2 ^ 31) (hdg : decode cc pc = .ok (.baload, 1))
    (kk : W p l e R s m args below meth c H locs cells slots Q (F0 m (pc + 1) ls (.int (f j) :: rest))) : W p l e R s m args below meth c H locs cells slots Q (F0 m pc ls (.int (nI j) :: .ref (ad i) :: rest)) := by
  obtain ⟨hK, hP, -, -⟩ := hC
  refine va_zald B.1 B.2.1 hK hP i 3 (f := f) (by rw [wl_at hi, he]) rfl (vp_in_nI hj hn) hdg ?_
  rw [nI_clamp (Nat.lt_trans hj hn)]; exact kk
theorem r_clald (B : Bx p s m meth c cc nL ret own Ts args) (hC : Cu g lo N ad F s H0 H locs) {i : Nat} (hi : i < N) {n : Nat} {f : Nat → Int64} (he : F i = .inl (g.2.2 2, n, .inr (.inl f))) {j : Nat} (hj : j < n) (hn : n < 2 ^ 31) (hdg : decode cc pc = .ok (.laload, 1))
    (kk : W p l e R s m args below meth c H locs cells slots Q (F0 m (pc + 1) ls (.long (f j) :: rest))) : W p l e R s m args below meth c H locs cells slots Q (F0 m pc ls (.int (nI j) :: .ref (ad i) :: rest)) := by
  obtain ⟨hK, hP, -, -⟩ := hC
  refine va_lald B.1 B.2.1 hK hP i 2 (f := f) (by rw [wl_at hi, he]) rfl (vp_in_nI hj hn) hdg ?_
  rw [nI_clamp (Nat.lt_trans hj hn)]; exact kk
theorem r_cqald (B : Bx p s m meth c cc nL ret own Ts args) (hC : Cu g lo N ad F s H0 H locs) {i : Nat} (hi : i < N) {n : Nat} {f : Nat → Option Nat} (he : F i = .inl (g.2.2 4, n, .inr (.inr (.inr (.inr f))))) {j : Nat} (hj : j < n) (hn : n < 2 ^ 31) {t : Nat} (ht : f j = some t) (hdg : decode cc pc = .ok (.aaload, 1))
    (kk : W p l e R s m args below meth c H locs cells slots Q (F0 m (pc + 1) ls (.ref t :: rest))) : W p l e R s m args below meth c H locs cells slots Q (F0 m pc ls (.int (nI j) :: .ref (ad i) :: rest)) := by
  obtain ⟨hK, hP, -, -⟩ := hC
  refine va_aldq B.1 B.2.1 hK hP i 4 (C := "ShipFromItself$Load") (f := f) (by rw [wl_at hi, he]) rfl (vp_in_nI hj hn) hdg ?_
  rw [nI_clamp (Nat.lt_trans hj hn), ht]; exact kk
theorem r_cast (B : Bx p s m meth c cc nL ret own Ts args) (hC : Cu g lo N ad F s H0 H locs) {i : Nat} (hi : i < N) {n : Nat} {f : Nat → Int32} (he : F i = .inl (g.2.2 0, n, .inl f)) {j : Nat} (hj : j < n) (hn : n < 2 ^ 31) {x : Int32} (hdg : decode cc pc = .ok (.iastore, 1))
    (kk : ∀ (H1 : Heap) (locs1 : List Loc), Cu g lo N ad (va_up F i (.inl (g.2.2 0, n, .inl (upd f j x)))) s H0 H1 locs1 → W p l e R s m args below meth c H1 locs1 cells slots Q (F0 m (pc + 1) ls rest)) : W p l e R s m args below meth c H locs cells slots Q (F0 m pc ls (.int x :: .int (nI j) :: .ref (ad i) :: rest)) := by
  obtain ⟨hK, hP, hD, hS⟩ := hC
  refine va_iast B.1 B.2.1 hK hP hD hS i 0 (f := f) (by rw [wl_at hi, he]) rfl (vp_in_nI hj hn) hdg (fun H1 locs1 hP1 hD1 hS1 => ?_)
  rw [nI_clamp (Nat.lt_trans hj hn), wl_set hi] at hP1 hD1
  exact kk H1 locs1 ⟨hK, hP1, hD1, hS1⟩
theorem r_cbast (B : Bx p s m meth c cc nL ret own Ts args) (hC : Cu g lo N ad F s H0 H locs) {i : Nat} (hi : i < N) {n : Nat} {f : Nat → Int32} (he : F i = .inl (g.2.2 1, n, .inl f)) {j : Nat} (hj : j < n) (hn : n < 2 ^ 31) {x : Int32} (hdg : decode cc pc = .ok (.bastore, 1))
    (kk : ∀ (H1 : Heap) (locs1 : List Loc), Cu g lo N ad (va_up F i (.inl (g.2.2 1, n, .inl (upd f j (vp_nar .byte x))))) s H0 H1 locs1 → W p l e R s m args below meth c H1 locs1 cells slots Q (F0 m (pc + 1) ls rest)) : W p l e R s m args below meth c H locs cells slots Q (F0 m pc ls (.int x :: .int (nI j) :: .ref (ad i) :: rest)) := by
  obtain ⟨hK, hP, hD, hS⟩ := hC
  refine va_bast B.1 B.2.1 hK hP hD hS i 1 (f := f) (by rw [wl_at hi, he]) rfl (vp_in_nI hj hn) hdg (fun H1 locs1 hP1 hD1 hS1 => ?_)
  rw [nI_clamp (Nat.lt_trans hj hn), wl_set hi] at hP1 hD1
  exact kk H1 locs1 ⟨hK, hP1, hD1, hS1⟩
theorem r_czast (B : Bx p s m meth c cc nL ret own Ts args) (hC : Cu g lo N ad F s H0 H locs) {i : Nat} (hi : i < N) {n : Nat} {f : Nat → Int32} (he : F i = .inl (g.2.2 3, n, .inl f)) {j : Nat} (hj : j < n) (hn : n < 2 ^ 31) {x : Int32} (hdg : decode cc pc = .ok (.bastore, 1))
    (kk : ∀ (H1 : Heap) (locs1 : List Loc), Cu g lo N ad (va_up F i (.inl (g.2.2 3, n, .inl (upd f j (vp_nar .boolean x))))) s H0 H1 locs1 → W p l e R s m args below meth c H1 locs1 cells slots Q (F0 m (pc + 1) ls rest)) : W p l e R s m args below meth c H locs cells slots Q (F0 m pc ls (.int x :: .int (nI j) :: .ref (ad i) :: rest)) := by
  obtain ⟨hK, hP, hD, hS⟩ := hC
  refine va_zast B.1 B.2.1 hK hP hD hS i 3 (f := f) (by rw [wl_at hi, he]) rfl (vp_in_nI hj hn) hdg (fun H1 locs1 hP1 hD1 hS1 => ?_)
  rw [nI_clamp (Nat.lt_trans hj hn), wl_set hi] at hP1 hD1
  exact kk H1 locs1 ⟨hK, hP1, hD1, hS1⟩
theorem r_clast (B : Bx p s m meth c cc nL ret own Ts args) (hC : Cu g lo N ad F s H0 H locs) {i : Nat} (hi : i < N) {n : Nat} {f : Nat → Int64} (he : F i = .inl (g.2.2 2, n, .inr (.inl f))) {j : Nat} (hj : j < n) (hn : n < 2 ^ 31) {x : Int64} (hdg : decode cc pc = .ok (.lastore, 1))
    (kk : ∀ (H1 : Heap) (locs1 : List Loc), Cu g lo N ad (va_up F i (.inl (g.2.2 2, n, .inr (.inl (vp_updL f j x))))) s H0 H1 locs1 → W p l e R s m args below meth c H1 locs1 cells slots Q (F0 m (pc + 1) ls rest)) : W p l e R s m args below meth c H locs cells slots Q (F0 m pc ls (.long x :: .int (nI j) :: .ref (ad i) :: rest)) := by
  obtain ⟨hK, hP, hD, hS⟩ := hC
  refine va_last B.1 B.2.1 hK hP hD hS i 2 (f := f) (by rw [wl_at hi, he]) rfl (vp_in_nI hj hn) hdg (fun H1 locs1 hP1 hD1 hS1 => ?_)
  rw [nI_clamp (Nat.lt_trans hj hn), wl_set hi] at hP1 hD1
  exact kk H1 locs1 ⟨hK, hP1, hD1, hS1⟩
theorem r_calen (B : Bx p s m meth c cc nL ret own Ts args) (hC : Cu g lo N ad F s H0 H locs) {i : Nat} (hi : i < N) {cA : ClassId} {x : vp_A} (he : F i = .inl (cA, x)) (t0 : Nat) {ty : FieldType} (ht : (gT g)[t0]? = some (cA, ty)) {n : Nat} (hv : x.1 = n) (hdg : decode cc pc = .ok (.arraylength, 1))
    (kk : W p l e R s m args below meth c H locs cells slots Q (F0 m (pc + 1) ls (.int (nI n) :: rest))) : W p l e R s m args below meth c H locs cells slots Q (F0 m pc ls (.ref (ad i) :: rest)) := by
  obtain ⟨hK, hP, -, -⟩ := hC
  exact va_alen B.1 B.2.1 hK hP i t0 (x := x) (by rw [wl_at hi, he]) ht (v := nI n) (by rw [hv]; rfl) hdg kk
/-- another name for the number on top -/
theorem r_tI {x y : Int32} (h : x = y) (k : W p l e R s m args below meth c H locs cells slots Q (F0 m pc ls (.int y :: rest))) : W p l e R s m args below meth c H locs cells slots Q (F0 m pc ls (.int x :: rest)) := by
  subst h; exact k
theorem r_tL {x y : Int64} (h : x = y) (k : W p l e R s m args below meth c H locs cells slots Q (F0 m pc ls (.long y :: rest))) : W p l e R s m args below meth c H locs cells slots Q (F0 m pc ls (.long x :: rest)) := by
  subst h; exact k
-- ends
theorem r_eI {post : Int32 → (Nat → va_E) → Prop} (B : Bx p s m meth c cc nL (some .int) own Ts args) (hC : Cu g lo N ad F s s.heap H locs) {v : Int32} (hp : post v F) (hdg : decode cc pc = .ok (.ireturn, 1)) :
    W p l e R s m args below meth c H locs 0 0 (MQ below (va_Qi post (fun F' t => Wd g lo N ad F' t) (fun q => lo ≤ q)) args s 0 0 (fun q => lo ≤ q)) (F0 m pc ls [.int v]) := by
  obtain ⟨hK, hP, hD, hS⟩ := hC
  obtain ⟨hx, hb, hml, hown, hts, hr, hlocks⟩ := B
  exact W.iret (v := v) hx hb hr (fun t ht hW => ⟨⟨v, F, rfl, hp, va_K.moved hW.alike hK, by rw [ht]; exact hP, hD⟩, hS.F ht⟩) hS.2.2 hdg
theorem r_eZ {post : Int32 → (Nat → va_E) → Prop} (B : Bx p s m meth c cc nL (some .boolean) own Ts args) (hC : Cu g lo N ad F s s.heap H locs) {v : Int32} (hn : narrow .boolean (.int v) = .int v) (hp : post v F) (hdg : decode cc pc = .ok (.ireturn, 1)) :
    W p l e R s m args below meth c H locs 0 0 (MQ below (va_Qi post (fun F' t => Wd g lo N ad F' t) (fun q => lo ≤ q)) args s 0 0 (fun q => lo ≤ q)) (F0 m pc ls [.int v]) := by
  obtain ⟨hK, hP, hD, hS⟩ := hC
  obtain ⟨hx, hb, hml, hown, hts, hr, hlocks⟩ := B
  exact W.zret (v := v) hx hb hr hn (fun t ht hW => ⟨⟨v, F, rfl, hp, va_K.moved hW.alike hK, by rw [ht]; exact hP, hD⟩, hS.F ht⟩) hS.2.2 hdg
theorem r_eL {post : Int64 → (Nat → va_E) → Prop} (B : Bx p s m meth c cc nL (some .long) own Ts args) (hC : Cu g lo N ad F s s.heap H locs) {v : Int64} (hp : post v F) (hdg : decode cc pc = .ok (.lreturn, 1)) :
    W p l e R s m args below meth c H locs 0 0 (MQ below (va_Ql post (fun F' t => Wd g lo N ad F' t) (fun q => lo ≤ q)) args s 0 0 (fun q => lo ≤ q)) (F0 m pc ls [.long v]) := by
  obtain ⟨hK, hP, hD, hS⟩ := hC
  obtain ⟨hx, hb, hml, hown, hts, hr, hlocks⟩ := B
  exact W.lret (v := v) hx hb hr (fun t ht hW => ⟨⟨v, F, rfl, hp, va_K.moved hW.alike hK, by rw [ht]; exact hP, hD⟩, hS.F ht⟩) hS.2.2 hdg
theorem r_eV {post : (Nat → va_E) → Prop} (B : Bx p s m meth c cc nL none own Ts args) (hC : Cu g lo N ad F s s.heap H locs) (hp : post F) (hdg : decode cc pc = .ok (.return_, 1)) :
    W p l e R s m args below meth c H locs 0 0 (MQ below (va_Qv post (fun F' t => Wd g lo N ad F' t) (fun q => lo ≤ q)) args s 0 0 (fun q => lo ≤ q)) (F0 m pc ls []) := by
  obtain ⟨hK, hP, hD, hS⟩ := hC
  obtain ⟨hx, hb, hml, hown, hts, hr, hlocks⟩ := B
  exact W.vret hx hb hr (fun t ht hW => ⟨⟨F, rfl, hp, va_K.moved hW.alike hK, by rw [ht]; exact hP, hD⟩, hS.F ht⟩) hS.2.2 hdg
theorem r_eR {rt : FieldType} (B : Bx p s m meth c cc nL (some rt) own Ts args) (hC : Cu g lo N ad F s s.heap H locs) (hrt : (∃ n, rt = .object n) ∨ ∃ t, rt = .array t) {i : Nat} (hdg : decode cc pc = .ok (.areturn, 1)) :
    W p l e R s m args below meth c H locs 0 0 (MQ below (va_Qr (fun F' : Nat → va_E => F' = F) (fun F' a t => a = ad i ∧ Wd g lo N ad F' t) (fun q => lo ≤ q)) args s 0 0 (fun q => lo ≤ q)) (F0 m pc ls [.ref (ad i)]) := by
  obtain ⟨hK, hP, hD, hS⟩ := hC
  obtain ⟨hx, hb, hml, hown, hts, hr, hlocks⟩ := B
  exact W.aret (v := .ref (ad i)) hx hb hr hrt (Or.inr ⟨_, rfl⟩) (fun t ht hW => ⟨⟨F, ad i, rfl, rfl, rfl, va_K.moved hW.alike hK, by rw [ht]; exact hP, hD⟩, hS.F ht⟩) hS.2.2 hdg
-- calls
variable {y : MethodName} {bytes : ByteArray} {maxL n index fr lc : Nat} {rt : Option FieldType} {ws ws' : List Cond} {C : String} {As : List Value} {st : List Value}
theorem r_calli (B : Bx p s m meth c cc nL ret own Ts args) (hC : Cu g lo N ad F s H0 H locs) (hl : ls.size = nL) (i ci : Nat) {q : vw_C} (hq : vwCl[ci]? = some q) (hqC : q.1 = C) {fs : List Value} (hi : i < N) (he : F i = .inr (ci, fs)) {post : Int32 → (Nat → va_E) → Prop} (hM : MI l g lo N ad y ws fr lc (.ref (ad i) :: As) F post)
    (hG : GoodIn Ts (wsV own index C y ws)) (hw : ws = Cond.code y bytes maxL rt :: ws') (hAn : As.length = n) (hd : y.cls = C ∧ y.cls ≠ "java/lang/invoke/MethodHandle" ∧ y.cls ≠ "java/lang/invoke/VarHandle" ∧ (parseMethodDescriptor y.desc).map (fun d => d.parameters.length) = some n) (hR : fr + 1 ≤ R.frames ∧ 8 + (maxL + 11) + lc ≤ R.locals) (hcs : cells ≤ R.cells ∧ slots ≤ R.slots) (hst : st = As.reverse ++ .ref (ad i) :: rest) (hr : (rest.map fun v => v.category).sum ≤ 8) (hdg : decode cc pc = .ok (.invokevirtual index, 3))
    (kk : ∀ (r : Int32) (F1 : Nat → va_E) (H1 : Heap) (locs1 : List Loc), post r F1 → Cu g lo N ad F1 s H0 H1 locs1 → W p l e R s m args below meth c H1 locs1 cells slots Q (F0 m (pc + 3) ls (.int r :: rest))) : W p l e R s m args below meth c H locs cells slots Q (F0 m pc ls st) := by
  obtain ⟨hK, hP, hD, hS⟩ := hC
  obtain ⟨hx, hb, hml, hown, hts, -⟩ := B
  refine va_calli (va_runV (As := As) (rest := rest) ⟨hx, hb, hml, hown, hts⟩ hM (cwV n hts hG hw rfl rfl hd hR) ⟨wd_blind, hqC ▸ va_recv hK hP hq (q0 := i) (fs := fs) (by rw [wl_at hi, he]), fun U hU hW => ⟨rfl, va_K.moved hW.alike hK, by rw [hU]; exact hP, hD⟩⟩ rfl hAn hl hst (lv_room hr) hdg hcs) hS (fun q _ h => h) (fun q h => h) (fun r u t H1 locs1 ht hvm hw hB hz1 hk1 hS => ?_)
  obtain ⟨hK1, hP1, hD1⟩ := hB
  rw [ht] at hP1
  exact kk r u H1 locs1 hw ⟨hK, hP1, hD1, hS⟩
theorem r_calll (B : Bx p s m meth c cc nL ret own Ts args) (hC : Cu g lo N ad F s H0 H locs) (hl : ls.size = nL) (i ci : Nat) {q : vw_C} (hq : vwCl[ci]? = some q) (hqC : q.1 = C) {fs : List Value} (hi : i < N) (he : F i = .inr (ci, fs)) {post : Int64 → (Nat → va_E) → Prop} (hM : ML l g lo N ad y ws fr lc (.ref (ad i) :: As) F post)
    (hG : GoodIn Ts (wsV own index C y ws)) (hw : ws = Cond.code y bytes maxL rt :: ws') (hAn : As.length = n) (hd : y.cls = C ∧ y.cls ≠ "java/lang/invoke/MethodHandle" ∧ y.cls ≠ "java/lang/invoke/VarHandle" ∧ (parseMethodDescriptor y.desc).map (fun d => d.parameters.length) = some n) (hR : fr + 1 ≤ R.frames ∧ 8 + (maxL + 11) + lc ≤ R.locals) (hcs : cells ≤ R.cells ∧ slots ≤ R.slots) (hst : st = As.reverse ++ .ref (ad i) :: rest) (hr : (rest.map fun v => v.category).sum ≤ 8) (hdg : decode cc pc = .ok (.invokevirtual index, 3))
    (kk : ∀ (r : Int64) (F1 : Nat → va_E) (H1 : Heap) (locs1 : List Loc), post r F1 → Cu g lo N ad F1 s H0 H1 locs1 → W p l e R s m args below meth c H1 locs1 cells slots Q (F0 m (pc + 3) ls (.long r :: rest))) : W p l e R s m args below meth c H locs cells slots Q (F0 m pc ls st) := by
  obtain ⟨hK, hP, hD, hS⟩ := hC
  obtain ⟨hx, hb, hml, hown, hts, -⟩ := B
  refine va_calll (va_runV (As := As) (rest := rest) ⟨hx, hb, hml, hown, hts⟩ hM (cwV n hts hG hw rfl rfl hd hR) ⟨wd_blind, hqC ▸ va_recv hK hP hq (q0 := i) (fs := fs) (by rw [wl_at hi, he]), fun U hU hW => ⟨rfl, va_K.moved hW.alike hK, by rw [hU]; exact hP, hD⟩⟩ rfl hAn hl hst (lv_room hr) hdg hcs) hS (fun q _ h => h) (fun q h => h) (fun r u t H1 locs1 ht hvm hw hB hz1 hk1 hS => ?_)
  obtain ⟨hK1, hP1, hD1⟩ := hB
  rw [ht] at hP1
  exact kk r u H1 locs1 hw ⟨hK, hP1, hD1, hS⟩
theorem r_callv (B : Bx p s m meth c cc nL ret own Ts args) (hC : Cu g lo N ad F s H0 H locs) (hl : ls.size = nL) (i ci : Nat) {q : vw_C} (hq : vwCl[ci]? = some q) (hqC : q.1 = C) {fs : List Value} (hi : i < N) (he : F i = .inr (ci, fs)) {post : (Nat → va_E) → Prop} (hM : MV l g lo N ad y ws fr lc (.ref (ad i) :: As) F post)
    (hG : GoodIn Ts (wsV own index C y ws)) (hw : ws = Cond.code y bytes maxL rt :: ws') (hAn : As.length = n) (hd : y.cls = C ∧ y.cls ≠ "java/lang/invoke/MethodHandle" ∧ y.cls ≠ "java/lang/invoke/VarHandle" ∧ (parseMethodDescriptor y.desc).map (fun d => d.parameters.length) = some n) (hR : fr + 1 ≤ R.frames ∧ 8 + (maxL + 11) + lc ≤ R.locals) (hcs : cells ≤ R.cells ∧ slots ≤ R.slots) (hst : st = As.reverse ++ .ref (ad i) :: rest) (hr : (rest.map fun v => v.category).sum ≤ 8) (hdg : decode cc pc = .ok (.invokevirtual index, 3))
    (kk : ∀ (F1 : Nat → va_E) (H1 : Heap) (locs1 : List Loc), post F1 → Cu g lo N ad F1 s H0 H1 locs1 → W p l e R s m args below meth c H1 locs1 cells slots Q (F0 m (pc + 3) ls rest)) : W p l e R s m args below meth c H locs cells slots Q (F0 m pc ls st) := by
  obtain ⟨hK, hP, hD, hS⟩ := hC
  obtain ⟨hx, hb, hml, hown, hts, -⟩ := B
  refine va_callv (va_runV (As := As) (rest := rest) ⟨hx, hb, hml, hown, hts⟩ hM (cwV n hts hG hw rfl rfl hd hR) ⟨wd_blind, hqC ▸ va_recv hK hP hq (q0 := i) (fs := fs) (by rw [wl_at hi, he]), fun U hU hW => ⟨rfl, va_K.moved hW.alike hK, by rw [hU]; exact hP, hD⟩⟩ rfl hAn hl hst (lv_room hr) hdg hcs) hS (fun q _ h => h) (fun q h => h) (fun u t H1 locs1 ht hvm hw hB hz1 hk1 hS => ?_)
  obtain ⟨hK1, hP1, hD1⟩ := hB
  rw [ht] at hP1
  exact kk u H1 locs1 hw ⟨hK, hP1, hD1, hS⟩
theorem r_callr (B : Bx p s m meth c cc nL ret own Ts args) (hC : Cu g lo N ad F s H0 H locs) (hl : ls.size = nL) (i ci : Nat) {q : vw_C} (hq : vwCl[ci]? = some q) (hqC : q.1 = C) {fs : List Value} (hi : i < N) (he : F i = .inr (ci, fs)) {k : Nat} (hM : MR l g lo N ad y ws fr lc (.ref (ad i) :: As) F k)
    (hG : GoodIn Ts (wsV own index C y ws)) (hw : ws = Cond.code y bytes maxL rt :: ws') (hAn : As.length = n) (hd : y.cls = C ∧ y.cls ≠ "java/lang/invoke/MethodHandle" ∧ y.cls ≠ "java/lang/invoke/VarHandle" ∧ (parseMethodDescriptor y.desc).map (fun d => d.parameters.length) = some n) (hR : fr + 1 ≤ R.frames ∧ 8 + (maxL + 11) + lc ≤ R.locals) (hcs : cells ≤ R.cells ∧ slots ≤ R.slots) (hst : st = As.reverse ++ .ref (ad i) :: rest) (hr : (rest.map fun v => v.category).sum ≤ 8) (hdg : decode cc pc = .ok (.invokevirtual index, 3))
    (kk : ∀ (H1 : Heap) (locs1 : List Loc), Cu g lo N ad F s H0 H1 locs1 → W p l e R s m args below meth c H1 locs1 cells slots Q (F0 m (pc + 3) ls (.ref (ad k) :: rest))) : W p l e R s m args below meth c H locs cells slots Q (F0 m pc ls st) := by
  obtain ⟨hK, hP, hD, hS⟩ := hC
  obtain ⟨hx, hb, hml, hown, hts, -⟩ := B
  refine va_callr (va_runV (As := As) (rest := rest) ⟨hx, hb, hml, hown, hts⟩ hM (cwV n hts hG hw rfl rfl hd hR) ⟨wd_blind, hqC ▸ va_recv hK hP hq (q0 := i) (fs := fs) (by rw [wl_at hi, he]), fun U hU hW => ⟨rfl, va_K.moved hW.alike hK, by rw [hU]; exact hP, hD⟩⟩ rfl hAn hl hst (lv_room hr) hdg hcs) hS (fun q _ h => h) (fun q h => h) (fun u ra t H1 locs1 ht hvm hw hB hz1 hk1 hS => ?_)
  obtain ⟨rfl, hK1, hP1, hD1⟩ := hB
  rw [ht] at hP1
  subst hw
  exact kk H1 locs1 ⟨hK, hP1, hD1, hS⟩
theorem r_scalli (B : Bx p s m meth c cc nL ret own Ts args) (hC : Cu g lo N ad F s H0 H locs) (hl : ls.size = nL) {post : Int32 → (Nat → va_E) → Prop} (hM : MI l g lo N ad y ws fr lc As F post)
    (hG : GoodIn Ts (va_wsS own index y ws)) (hw : ws = Cond.code y bytes maxL rt :: ws') (hAn : As.length = n) (hd : y.cls ≠ "java/lang/invoke/MethodHandle" ∧ y.cls ≠ "java/lang/invoke/VarHandle" ∧ (parseMethodDescriptor y.desc).map (fun d => d.parameters.length) = some n) (hR : fr + 1 ≤ R.frames ∧ 8 + (maxL + 11) + lc ≤ R.locals) (hcs : cells ≤ R.cells ∧ slots ≤ R.slots) (hst : st = As.reverse ++ rest) (hr : (rest.map fun v => v.category).sum ≤ 8) (hdg : decode cc pc = .ok (.invokestatic index, 3))
    (kk : ∀ (r : Int32) (F1 : Nat → va_E) (H1 : Heap) (locs1 : List Loc), post r F1 → Cu g lo N ad F1 s H0 H1 locs1 → W p l e R s m args below meth c H1 locs1 cells slots Q (F0 m (pc + 3) ls (.int r :: rest))) : W p l e R s m args below meth c H locs cells slots Q (F0 m pc ls st) := by
  obtain ⟨hK, hP, hD, hS⟩ := hC
  obtain ⟨hx, hb, hml, hown, hts, -⟩ := B
  refine va_calli (va_runS (As := As) (rest := rest) ⟨hx, hb, hml, hown, hts⟩ hM (va_cwS n hts hG hw rfl rfl hd hR) ⟨wd_blind, fun U hU hW => ⟨rfl, va_K.moved hW.alike hK, by rw [hU]; exact hP, hD⟩⟩ rfl hAn hl hst (lv_room hr) hdg hcs) hS (fun q _ h => h) (fun q h => h) (fun r u t H1 locs1 ht hvm hw hB hz1 hk1 hS => ?_)
  obtain ⟨hK1, hP1, hD1⟩ := hB
  rw [ht] at hP1
  exact kk r u H1 locs1 hw ⟨hK, hP1, hD1, hS⟩
theorem r_scalll (B : Bx p s m meth c cc nL ret own Ts args) (hC : Cu g lo N ad F s H0 H locs) (hl : ls.size = nL) {post : Int64 → (Nat → va_E) → Prop} (hM : ML l g lo N ad y ws fr lc As F post)
    (hG : GoodIn Ts (va_wsS own index y ws)) (hw : ws = Cond.code y bytes maxL rt :: ws') (hAn : As.length = n) (hd : y.cls ≠ "java/lang/invoke/MethodHandle" ∧ y.cls ≠ "java/lang/invoke/VarHandle" ∧ (parseMethodDescriptor y.desc).map (fun d => d.parameters.length) = some n) (hR : fr + 1 ≤ R.frames ∧ 8 + (maxL + 11) + lc ≤ R.locals) (hcs : cells ≤ R.cells ∧ slots ≤ R.slots) (hst : st = As.reverse ++ rest) (hr : (rest.map fun v => v.category).sum ≤ 8) (hdg : decode cc pc = .ok (.invokestatic index, 3))
    (kk : ∀ (r : Int64) (F1 : Nat → va_E) (H1 : Heap) (locs1 : List Loc), post r F1 → Cu g lo N ad F1 s H0 H1 locs1 → W p l e R s m args below meth c H1 locs1 cells slots Q (F0 m (pc + 3) ls (.long r :: rest))) : W p l e R s m args below meth c H locs cells slots Q (F0 m pc ls st) := by
  obtain ⟨hK, hP, hD, hS⟩ := hC
  obtain ⟨hx, hb, hml, hown, hts, -⟩ := B
  refine va_calll (va_runS (As := As) (rest := rest) ⟨hx, hb, hml, hown, hts⟩ hM (va_cwS n hts hG hw rfl rfl hd hR) ⟨wd_blind, fun U hU hW => ⟨rfl, va_K.moved hW.alike hK, by rw [hU]; exact hP, hD⟩⟩ rfl hAn hl hst (lv_room hr) hdg hcs) hS (fun q _ h => h) (fun q h => h) (fun r u t H1 locs1 ht hvm hw hB hz1 hk1 hS => ?_)
  obtain ⟨hK1, hP1, hD1⟩ := hB
  rw [ht] at hP1
  exact kk r u H1 locs1 hw ⟨hK, hP1, hD1, hS⟩
/-- System.arraycopy of k ints, from the beginning to the beginning -/
theorem r_copyi (B : Bx p s m meth c cc nL ret own Ts args) (hC : Cu g lo N ad F s H0 H locs) (hl : ls.size = nL) {i j : Nat} (hi : i < N) (hj : j < N) {n0 n1 k : Nat} {f h : Nat → Int32} (hei : F i = .inl (g.2.2 0, n0, .inl f)) (hej : F j = .inl (g.2.2 0, n1, .inl h)) (h4 : k ≤ n0) (h5 : k ≤ n1) (hk : k < 2 ^ 31) {index : Nat} (hw1 : Cond.methodLink own index arraycopyName ∈ Ts) (hw2 : Cond.native arraycopyName ∈ Ts) (hw3 : Cond.static arraycopyName ∈ Ts) (hw4 : Cond.initialized "java/lang/System" ∈ Ts)
    (hframes : 1 ≤ R.frames) (hlocals : (rest.map fun v => v.category).sum + (nativeFrameWords "java/lang/System" "arraycopy" 5 + 11) ≤ R.locals) (hdg : decode cc pc = .ok (.invokestatic index, 3))
    (kk : ∀ (H1 : Heap) (locs1 : List Loc), Cu g lo N ad (va_up F j (.inl (g.2.2 0, n1, .inl (va_cpy f h 0 0 k)))) s H0 H1 locs1 → W p l e R s m args below meth c H1 locs1 cells slots Q (F0 m (pc + 3) ls rest)) : W p l e R s m args below meth c H locs cells slots Q (F0 m pc ls (.int (nI k) :: .int (nI 0) :: .ref (ad j) :: .int (nI 0) :: .ref (ad i) :: rest)) := by
  obtain ⟨hK, hP, hD, hS⟩ := hC
  obtain ⟨hx, hb, hml, hown, hts, -⟩ := B
  have z0 : (nI 0).toNatClampNeg = 0 := nI_clamp (by decide)
  refine va_copyi hx hb (hml.trans hl.symm) hown (hts _ hw1) (hts _ hw2) (hts _ hw3) (hts _ hw4) hK hP hD hS i j 0 0 (f := f) (g := h) (ty := .int) (by rw [wl_at hi, hei]) (by rw [wl_at hj, hej]) rfl rfl rfl (nI_pos (by decide)) (nI_pos (by decide)) (nI_pos hk) (by rw [z0, nI_clamp hk]; omega) (by rw [z0, nI_clamp hk]; omega) (fun _ _ => rfl) hframes hlocals hdg (fun H1 locs1 hP1 hD1 hS1 => ?_)
  rw [z0, nI_clamp hk, wl_set hj] at hP1 hD1
  exact kk H1 locs1 ⟨hK, hP1, hD1, hS1⟩
/-- Math.max, Math.min of two ints -/
theorem r_max (B : Bx p s m meth c cc nL ret own Ts args) (hl : ls.size = nL) {index : Nat} (hw1 : Cond.methodLink own index Lib.Math.max.name ∈ Ts) (hw2 : Cond.static Lib.Math.max.name ∈ Ts) (hw3 : Cond.initialized "java/lang/Math" ∈ Ts) (hw4 : Cond.code Lib.Math.max.name Lib.Math.max.code 2 (some .int) ∈ Ts) (hframes : 1 ≤ R.frames) (hlocals : (rest.map fun v => v.category).sum + 13 ≤ R.locals) (hc : cells ≤ R.cells) (hs : slots ≤ R.slots) {x y : Int32} (hdg : decode cc pc = .ok (.invokestatic index, 3))
    (kk : W p l e R s m args below meth c H locs cells slots Q (F0 m (pc + 3) ls (.int (if x < y then y else x) :: rest))) : W p l e R s m args below meth c H locs cells slots Q (F0 m pc ls (.int y :: .int x :: rest)) := by
  obtain ⟨hx, hb, hml, hown, hts, -⟩ := B
  exact va_mmax hx hb (hml.trans hl.symm) hown (hts _ hw1) (hts _ hw2) (hts _ hw3) (hts _ hw4) hframes hlocals hc hs hdg kk
theorem r_min (B : Bx p s m meth c cc nL ret own Ts args) (hl : ls.size = nL) {index : Nat} (hw1 : Cond.methodLink own index Lib.Math.min.name ∈ Ts) (hw2 : Cond.static Lib.Math.min.name ∈ Ts) (hw3 : Cond.initialized "java/lang/Math" ∈ Ts) (hw4 : Cond.code Lib.Math.min.name Lib.Math.min.code 2 (some .int) ∈ Ts) (hframes : 1 ≤ R.frames) (hlocals : (rest.map fun v => v.category).sum + 13 ≤ R.locals) (hc : cells ≤ R.cells) (hs : slots ≤ R.slots) {x y : Int32} (hdg : decode cc pc = .ok (.invokestatic index, 3))
    (kk : W p l e R s m args below meth c H locs cells slots Q (F0 m (pc + 3) ls (.int (if y < x then y else x) :: rest))) : W p l e R s m args below meth c H locs cells slots Q (F0 m pc ls (.int y :: .int x :: rest)) := by
  obtain ⟨hx, hb, hml, hown, hts, -⟩ := B
  exact va_mmin hx hb (hml.trans hl.symm) hown (hts _ hw1) (hts _ hw2) (hts _ hw3) (hts _ hw4) hframes hlocals hc hs hdg kk
end CELLS
end
section
theorem dJ6_numberOfTrailingZeros_0f7a4_0 : decode cJ6_numberOfTrailingZeros_0f7a4 0 = .ok (.iload_n 0, 1) := by decide +kernel
theorem dJ6_numberOfTrailingZeros_0f7a4_1 : decode cJ6_numberOfTrailingZeros_0f7a4 1 = .ok (.iconst (-1), 1) := by decide +kernel
theorem dJ6_numberOfTrailingZeros_0f7a4_2 : decode cJ6_numberOfTrailingZeros_0f7a4 2 = .ok (.ixor, 1) := by decide +kernel
theorem dJ6_numberOfTrailingZeros_0f7a4_3 : decode cJ6_numberOfTrailingZeros_0f7a4 3 = .ok (.iload_n 0, 1) := by decide +kernel
theorem dJ6_numberOfTrailingZeros_0f7a4_4 : decode cJ6_numberOfTrailingZeros_0f7a4 4 = .ok (.iconst 1, 1) := by decide +kernel
theorem dJ6_numberOfTrailingZeros_0f7a4_5 : decode cJ6_numberOfTrailingZeros_0f7a4 5 = .ok (.isub, 1) := by decide +kernel
theorem dJ6_numberOfTrailingZeros_0f7a4_6 : decode cJ6_numberOfTrailingZeros_0f7a4 6 = .ok (.iand, 1) := by decide +kernel
theorem dJ6_numberOfTrailingZeros_0f7a4_7 : decode cJ6_numberOfTrailingZeros_0f7a4 7 = .ok (.istore_n 0, 1) := by decide +kernel
theorem dJ6_numberOfTrailingZeros_0f7a4_8 : decode cJ6_numberOfTrailingZeros_0f7a4 8 = .ok (.iload_n 0, 1) := by decide +kernel
theorem dJ6_numberOfTrailingZeros_0f7a4_9 : decode cJ6_numberOfTrailingZeros_0f7a4 9 = .ok (.ifCond .gt 8, 3) := by decide +kernel
theorem dJ6_numberOfTrailingZeros_0f7a4_12 : decode cJ6_numberOfTrailingZeros_0f7a4 12 = .ok (.iload_n 0, 1) := by decide +kernel
theorem dJ6_numberOfTrailingZeros_0f7a4_13 : decode cJ6_numberOfTrailingZeros_0f7a4 13 = .ok (.bipush 32, 2) := by decide +kernel
theorem dJ6_numberOfTrailingZeros_0f7a4_15 : decode cJ6_numberOfTrailingZeros_0f7a4 15 = .ok (.iand, 1) := by decide +kernel
theorem dJ6_numberOfTrailingZeros_0f7a4_16 : decode cJ6_numberOfTrailingZeros_0f7a4 16 = .ok (.ireturn, 1) := by decide +kernel
theorem dJ6_numberOfTrailingZeros_0f7a4_17 : decode cJ6_numberOfTrailingZeros_0f7a4 17 = .ok (.iconst 1, 1) := by decide +kernel
theorem dJ6_numberOfTrailingZeros_0f7a4_18 : decode cJ6_numberOfTrailingZeros_0f7a4 18 = .ok (.istore_n 1, 1) := by decide +kernel
theorem dJ6_numberOfTrailingZeros_0f7a4_19 : decode cJ6_numberOfTrailingZeros_0f7a4 19 = .ok (.iload_n 0, 1) := by decide +kernel
theorem dJ6_numberOfTrailingZeros_0f7a4_20 : decode cJ6_numberOfTrailingZeros_0f7a4 20 = .ok (.ldc_w 264, 3) := by decide +kernel
theorem dJ6_numberOfTrailingZeros_0f7a4_23 : decode cJ6_numberOfTrailingZeros_0f7a4 23 = .ok (.if_icmp .le 11, 3) := by decide +kernel
theorem dJ6_numberOfTrailingZeros_0f7a4_26 : decode cJ6_numberOfTrailingZeros_0f7a4 26 = .ok (.iinc 1 16, 3) := by decide +kernel
theorem dJ6_numberOfTrailingZeros_0f7a4_29 : decode cJ6_numberOfTrailingZeros_0f7a4 29 = .ok (.iload_n 0, 1) := by decide +kernel
theorem dJ6_numberOfTrailingZeros_0f7a4_30 : decode cJ6_numberOfTrailingZeros_0f7a4 30 = .ok (.bipush 16, 2) := by decide +kernel
theorem dJ6_numberOfTrailingZeros_0f7a4_32 : decode cJ6_numberOfTrailingZeros_0f7a4 32 = .ok (.iushr, 1) := by decide +kernel
theorem dJ6_numberOfTrailingZeros_0f7a4_33 : decode cJ6_numberOfTrailingZeros_0f7a4 33 = .ok (.istore_n 0, 1) := by decide +kernel
theorem dJ6_numberOfTrailingZeros_0f7a4_34 : decode cJ6_numberOfTrailingZeros_0f7a4 34 = .ok (.iload_n 0, 1) := by decide +kernel
theorem dJ6_numberOfTrailingZeros_0f7a4_35 : decode cJ6_numberOfTrailingZeros_0f7a4 35 = .ok (.sipush 256, 3) := by decide +kernel
theorem dJ6_numberOfTrailingZeros_0f7a4_38 : decode cJ6_numberOfTrailingZeros_0f7a4 38 = .ok (.if_icmp .le 11, 3) := by decide +kernel
theorem dJ6_numberOfTrailingZeros_0f7a4_41 : decode cJ6_numberOfTrailingZeros_0f7a4 41 = .ok (.iinc 1 8, 3) := by decide +kernel
theorem dJ6_numberOfTrailingZeros_0f7a4_44 : decode cJ6_numberOfTrailingZeros_0f7a4 44 = .ok (.iload_n 0, 1) := by decide +kernel
theorem dJ6_numberOfTrailingZeros_0f7a4_45 : decode cJ6_numberOfTrailingZeros_0f7a4 45 = .ok (.bipush 8, 2) := by decide +kernel
theorem dJ6_numberOfTrailingZeros_0f7a4_47 : decode cJ6_numberOfTrailingZeros_0f7a4 47 = .ok (.iushr, 1) := by decide +kernel
theorem dJ6_numberOfTrailingZeros_0f7a4_48 : decode cJ6_numberOfTrailingZeros_0f7a4 48 = .ok (.istore_n 0, 1) := by decide +kernel
theorem dJ6_numberOfTrailingZeros_0f7a4_49 : decode cJ6_numberOfTrailingZeros_0f7a4 49 = .ok (.iload_n 0, 1) := by decide +kernel
theorem dJ6_numberOfTrailingZeros_0f7a4_50 : decode cJ6_numberOfTrailingZeros_0f7a4 50 = .ok (.bipush 16, 2) := by decide +kernel
theorem dJ6_numberOfTrailingZeros_0f7a4_52 : decode cJ6_numberOfTrailingZeros_0f7a4 52 = .ok (.if_icmp .le 10, 3) := by decide +kernel
theorem dJ6_numberOfTrailingZeros_0f7a4_55 : decode cJ6_numberOfTrailingZeros_0f7a4 55 = .ok (.iinc 1 4, 3) := by decide +kernel
theorem dJ6_numberOfTrailingZeros_0f7a4_58 : decode cJ6_numberOfTrailingZeros_0f7a4 58 = .ok (.iload_n 0, 1) := by decide +kernel
theorem dJ6_numberOfTrailingZeros_0f7a4_59 : decode cJ6_numberOfTrailingZeros_0f7a4 59 = .ok (.iconst 4, 1) := by decide +kernel
theorem dJ6_numberOfTrailingZeros_0f7a4_60 : decode cJ6_numberOfTrailingZeros_0f7a4 60 = .ok (.iushr, 1) := by decide +kernel
theorem dJ6_numberOfTrailingZeros_0f7a4_61 : decode cJ6_numberOfTrailingZeros_0f7a4 61 = .ok (.istore_n 0, 1) := by decide +kernel
theorem dJ6_numberOfTrailingZeros_0f7a4_62 : decode cJ6_numberOfTrailingZeros_0f7a4 62 = .ok (.iload_n 0, 1) := by decide +kernel
theorem dJ6_numberOfTrailingZeros_0f7a4_63 : decode cJ6_numberOfTrailingZeros_0f7a4 63 = .ok (.iconst 4, 1) := by decide +kernel
theorem dJ6_numberOfTrailingZeros_0f7a4_64 : decode cJ6_numberOfTrailingZeros_0f7a4 64 = .ok (.if_icmp .le 10, 3) := by decide +kernel
theorem dJ6_numberOfTrailingZeros_0f7a4_67 : decode cJ6_numberOfTrailingZeros_0f7a4 67 = .ok (.iinc 1 2, 3) := by decide +kernel
theorem dJ6_numberOfTrailingZeros_0f7a4_70 : decode cJ6_numberOfTrailingZeros_0f7a4 70 = .ok (.iload_n 0, 1) := by decide +kernel
theorem dJ6_numberOfTrailingZeros_0f7a4_71 : decode cJ6_numberOfTrailingZeros_0f7a4 71 = .ok (.iconst 2, 1) := by decide +kernel
theorem dJ6_numberOfTrailingZeros_0f7a4_72 : decode cJ6_numberOfTrailingZeros_0f7a4 72 = .ok (.iushr, 1) := by decide +kernel
theorem dJ6_numberOfTrailingZeros_0f7a4_73 : decode cJ6_numberOfTrailingZeros_0f7a4 73 = .ok (.istore_n 0, 1) := by decide +kernel
theorem dJ6_numberOfTrailingZeros_0f7a4_74 : decode cJ6_numberOfTrailingZeros_0f7a4 74 = .ok (.iload_n 1, 1) := by decide +kernel
theorem dJ6_numberOfTrailingZeros_0f7a4_75 : decode cJ6_numberOfTrailingZeros_0f7a4 75 = .ok (.iload_n 0, 1) := by decide +kernel
theorem dJ6_numberOfTrailingZeros_0f7a4_76 : decode cJ6_numberOfTrailingZeros_0f7a4 76 = .ok (.iconst 1, 1) := by decide +kernel
theorem dJ6_numberOfTrailingZeros_0f7a4_77 : decode cJ6_numberOfTrailingZeros_0f7a4 77 = .ok (.iushr, 1) := by decide +kernel
theorem dJ6_numberOfTrailingZeros_0f7a4_78 : decode cJ6_numberOfTrailingZeros_0f7a4 78 = .ok (.iadd, 1) := by decide +kernel
theorem dJ6_numberOfTrailingZeros_0f7a4_79 : decode cJ6_numberOfTrailingZeros_0f7a4 79 = .ok (.ireturn, 1) := by decide +kernel
theorem dJ6_bitCount_0f7a4_0 : decode cJ6_bitCount_0f7a4 0 = .ok (.iload_n 0, 1) := by decide +kernel
theorem dJ6_bitCount_0f7a4_1 : decode cJ6_bitCount_0f7a4 1 = .ok (.iload_n 0, 1) := by decide +kernel
theorem dJ6_bitCount_0f7a4_2 : decode cJ6_bitCount_0f7a4 2 = .ok (.iconst 1, 1) := by decide +kernel
theorem dJ6_bitCount_0f7a4_3 : decode cJ6_bitCount_0f7a4 3 = .ok (.iushr, 1) := by decide +kernel
theorem dJ6_bitCount_0f7a4_4 : decode cJ6_bitCount_0f7a4 4 = .ok (.ldc_w 265, 3) := by decide +kernel
theorem dJ6_bitCount_0f7a4_7 : decode cJ6_bitCount_0f7a4 7 = .ok (.iand, 1) := by decide +kernel
theorem dJ6_bitCount_0f7a4_8 : decode cJ6_bitCount_0f7a4 8 = .ok (.isub, 1) := by decide +kernel
theorem dJ6_bitCount_0f7a4_9 : decode cJ6_bitCount_0f7a4 9 = .ok (.istore_n 0, 1) := by decide +kernel
theorem dJ6_bitCount_0f7a4_10 : decode cJ6_bitCount_0f7a4 10 = .ok (.iload_n 0, 1) := by decide +kernel
theorem dJ6_bitCount_0f7a4_11 : decode cJ6_bitCount_0f7a4 11 = .ok (.ldc_w 266, 3) := by decide +kernel
theorem dJ6_bitCount_0f7a4_14 : decode cJ6_bitCount_0f7a4 14 = .ok (.iand, 1) := by decide +kernel
theorem dJ6_bitCount_0f7a4_15 : decode cJ6_bitCount_0f7a4 15 = .ok (.iload_n 0, 1) := by decide +kernel
theorem dJ6_bitCount_0f7a4_16 : decode cJ6_bitCount_0f7a4 16 = .ok (.iconst 2, 1) := by decide +kernel
theorem dJ6_bitCount_0f7a4_17 : decode cJ6_bitCount_0f7a4 17 = .ok (.iushr, 1) := by decide +kernel
theorem dJ6_bitCount_0f7a4_18 : decode cJ6_bitCount_0f7a4 18 = .ok (.ldc_w 266, 3) := by decide +kernel
theorem dJ6_bitCount_0f7a4_21 : decode cJ6_bitCount_0f7a4 21 = .ok (.iand, 1) := by decide +kernel
theorem dJ6_bitCount_0f7a4_22 : decode cJ6_bitCount_0f7a4 22 = .ok (.iadd, 1) := by decide +kernel
theorem dJ6_bitCount_0f7a4_23 : decode cJ6_bitCount_0f7a4 23 = .ok (.istore_n 0, 1) := by decide +kernel
theorem dJ6_bitCount_0f7a4_24 : decode cJ6_bitCount_0f7a4 24 = .ok (.iload_n 0, 1) := by decide +kernel
theorem dJ6_bitCount_0f7a4_25 : decode cJ6_bitCount_0f7a4 25 = .ok (.iload_n 0, 1) := by decide +kernel
theorem dJ6_bitCount_0f7a4_26 : decode cJ6_bitCount_0f7a4 26 = .ok (.iconst 4, 1) := by decide +kernel
theorem dJ6_bitCount_0f7a4_27 : decode cJ6_bitCount_0f7a4 27 = .ok (.iushr, 1) := by decide +kernel
theorem dJ6_bitCount_0f7a4_28 : decode cJ6_bitCount_0f7a4 28 = .ok (.iadd, 1) := by decide +kernel
theorem dJ6_bitCount_0f7a4_29 : decode cJ6_bitCount_0f7a4 29 = .ok (.ldc_w 267, 3) := by decide +kernel
theorem dJ6_bitCount_0f7a4_32 : decode cJ6_bitCount_0f7a4 32 = .ok (.iand, 1) := by decide +kernel
theorem dJ6_bitCount_0f7a4_33 : decode cJ6_bitCount_0f7a4 33 = .ok (.istore_n 0, 1) := by decide +kernel
theorem dJ6_bitCount_0f7a4_34 : decode cJ6_bitCount_0f7a4 34 = .ok (.iload_n 0, 1) := by decide +kernel
theorem dJ6_bitCount_0f7a4_35 : decode cJ6_bitCount_0f7a4 35 = .ok (.iload_n 0, 1) := by decide +kernel
theorem dJ6_bitCount_0f7a4_36 : decode cJ6_bitCount_0f7a4 36 = .ok (.bipush 8, 2) := by decide +kernel
theorem dJ6_bitCount_0f7a4_38 : decode cJ6_bitCount_0f7a4 38 = .ok (.iushr, 1) := by decide +kernel
theorem dJ6_bitCount_0f7a4_39 : decode cJ6_bitCount_0f7a4 39 = .ok (.iadd, 1) := by decide +kernel
theorem dJ6_bitCount_0f7a4_40 : decode cJ6_bitCount_0f7a4 40 = .ok (.istore_n 0, 1) := by decide +kernel
theorem dJ6_bitCount_0f7a4_41 : decode cJ6_bitCount_0f7a4 41 = .ok (.iload_n 0, 1) := by decide +kernel
theorem dJ6_bitCount_0f7a4_42 : decode cJ6_bitCount_0f7a4 42 = .ok (.iload_n 0, 1) := by decide +kernel
theorem dJ6_bitCount_0f7a4_43 : decode cJ6_bitCount_0f7a4 43 = .ok (.bipush 16, 2) := by decide +kernel
theorem dJ6_bitCount_0f7a4_45 : decode cJ6_bitCount_0f7a4 45 = .ok (.iushr, 1) := by decide +kernel
theorem dJ6_bitCount_0f7a4_46 : decode cJ6_bitCount_0f7a4 46 = .ok (.iadd, 1) := by decide +kernel
theorem dJ6_bitCount_0f7a4_47 : decode cJ6_bitCount_0f7a4 47 = .ok (.istore_n 0, 1) := by decide +kernel
theorem dJ6_bitCount_0f7a4_48 : decode cJ6_bitCount_0f7a4 48 = .ok (.iload_n 0, 1) := by decide +kernel
theorem dJ6_bitCount_0f7a4_49 : decode cJ6_bitCount_0f7a4 49 = .ok (.bipush 63, 2) := by decide +kernel
theorem dJ6_bitCount_0f7a4_51 : decode cJ6_bitCount_0f7a4 51 = .ok (.iand, 1) := by decide +kernel
theorem dJ6_bitCount_0f7a4_52 : decode cJ6_bitCount_0f7a4 52 = .ok (.ireturn, 1) := by decide +kernel
theorem dJ9_floorMod_7cf53_0 : decode cJ9_floorMod_7cf53 0 = .ok (.iload_n 0, 1) := by decide +kernel
theorem dJ9_floorMod_7cf53_1 : decode cJ9_floorMod_7cf53 1 = .ok (.iload_n 1, 1) := by decide +kernel
theorem dJ9_floorMod_7cf53_2 : decode cJ9_floorMod_7cf53 2 = .ok (.irem, 1) := by decide +kernel
theorem dJ9_floorMod_7cf53_3 : decode cJ9_floorMod_7cf53 3 = .ok (.istore_n 2, 1) := by decide +kernel
theorem dJ9_floorMod_7cf53_4 : decode cJ9_floorMod_7cf53 4 = .ok (.iload_n 0, 1) := by decide +kernel
theorem dJ9_floorMod_7cf53_5 : decode cJ9_floorMod_7cf53 5 = .ok (.iload_n 1, 1) := by decide +kernel
theorem dJ9_floorMod_7cf53_6 : decode cJ9_floorMod_7cf53 6 = .ok (.ixor, 1) := by decide +kernel
theorem dJ9_floorMod_7cf53_7 : decode cJ9_floorMod_7cf53 7 = .ok (.ifCond .ge 11, 3) := by decide +kernel
theorem dJ9_floorMod_7cf53_10 : decode cJ9_floorMod_7cf53 10 = .ok (.iload_n 2, 1) := by decide +kernel
theorem dJ9_floorMod_7cf53_11 : decode cJ9_floorMod_7cf53 11 = .ok (.ifCond .eq 7, 3) := by decide +kernel
theorem dJ9_floorMod_7cf53_14 : decode cJ9_floorMod_7cf53 14 = .ok (.iload_n 2, 1) := by decide +kernel
theorem dJ9_floorMod_7cf53_15 : decode cJ9_floorMod_7cf53 15 = .ok (.iload_n 1, 1) := by decide +kernel
theorem dJ9_floorMod_7cf53_16 : decode cJ9_floorMod_7cf53 16 = .ok (.iadd, 1) := by decide +kernel
theorem dJ9_floorMod_7cf53_17 : decode cJ9_floorMod_7cf53 17 = .ok (.ireturn, 1) := by decide +kernel
theorem dJ9_floorMod_7cf53_18 : decode cJ9_floorMod_7cf53 18 = .ok (.iload_n 2, 1) := by decide +kernel
theorem dJ9_floorMod_7cf53_19 : decode cJ9_floorMod_7cf53 19 = .ok (.ireturn, 1) := by decide +kernel
theorem dJ9_max_7cf53_0 : decode cJ9_max_7cf53 0 = .ok (.iload_n 0, 1) := by decide +kernel
theorem dJ9_max_7cf53_1 : decode cJ9_max_7cf53 1 = .ok (.iload_n 1, 1) := by decide +kernel
theorem dJ9_max_7cf53_2 : decode cJ9_max_7cf53 2 = .ok (.if_icmp .lt 7, 3) := by decide +kernel
theorem dJ9_max_7cf53_5 : decode cJ9_max_7cf53 5 = .ok (.iload_n 0, 1) := by decide +kernel
theorem dJ9_max_7cf53_6 : decode cJ9_max_7cf53 6 = .ok (.goto 4, 3) := by decide +kernel
theorem dJ9_max_7cf53_9 : decode cJ9_max_7cf53 9 = .ok (.iload_n 1, 1) := by decide +kernel
theorem dJ9_max_7cf53_10 : decode cJ9_max_7cf53 10 = .ok (.ireturn, 1) := by decide +kernel
theorem dJ9_min_7cf53_0 : decode cJ9_min_7cf53 0 = .ok (.iload_n 0, 1) := by decide +kernel
theorem dJ9_min_7cf53_1 : decode cJ9_min_7cf53 1 = .ok (.iload_n 1, 1) := by decide +kernel
theorem dJ9_min_7cf53_2 : decode cJ9_min_7cf53 2 = .ok (.if_icmp .gt 7, 3) := by decide +kernel
theorem dJ9_min_7cf53_5 : decode cJ9_min_7cf53 5 = .ok (.iload_n 0, 1) := by decide +kernel
theorem dJ9_min_7cf53_6 : decode cJ9_min_7cf53 6 = .ok (.goto 4, 3) := by decide +kernel
theorem dJ9_min_7cf53_9 : decode cJ9_min_7cf53 9 = .ok (.iload_n 1, 1) := by decide +kernel
theorem dJ9_min_7cf53_10 : decode cJ9_min_7cf53 10 = .ok (.ireturn, 1) := by decide +kernel
end
section
theorem dX3_init_0 : decode cX3_init 0 = .ok (.aload_n 0, 1) := by decide +kernel
theorem dX3_init_1 : decode cX3_init 1 = .ok (.invokespecial 3, 3) := by decide +kernel
theorem dX3_init_4 : decode cX3_init 4 = .ok (.aload_n 0, 1) := by decide +kernel
theorem dX3_init_5 : decode cX3_init 5 = .ok (.bipush 10, 2) := by decide +kernel
theorem dX3_init_7 : decode cX3_init 7 = .ok (.newarray .int, 2) := by decide +kernel
theorem dX3_init_9 : decode cX3_init 9 = .ok (.putfield 9, 3) := by decide +kernel
theorem dX3_init_12 : decode cX3_init 12 = .ok (.aload_n 0, 1) := by decide +kernel
theorem dX3_init_13 : decode cX3_init 13 = .ok (.bipush 10, 2) := by decide +kernel
theorem dX3_init_15 : decode cX3_init 15 = .ok (.newarray .int, 2) := by decide +kernel
theorem dX3_init_17 : decode cX3_init 17 = .ok (.putfield 15, 3) := by decide +kernel
theorem dX3_init_20 : decode cX3_init 20 = .ok (.aload_n 0, 1) := by decide +kernel
theorem dX3_init_21 : decode cX3_init 21 = .ok (.bipush 10, 2) := by decide +kernel
theorem dX3_init_23 : decode cX3_init 23 = .ok (.newarray .int, 2) := by decide +kernel
theorem dX3_init_25 : decode cX3_init 25 = .ok (.putfield 18, 3) := by decide +kernel
theorem dX3_init_28 : decode cX3_init 28 = .ok (.aload_n 0, 1) := by decide +kernel
theorem dX3_init_29 : decode cX3_init 29 = .ok (.bipush 10, 2) := by decide +kernel
theorem dX3_init_31 : decode cX3_init 31 = .ok (.newarray .int, 2) := by decide +kernel
theorem dX3_init_33 : decode cX3_init 33 = .ok (.putfield 21, 3) := by decide +kernel
theorem dX3_init_36 : decode cX3_init 36 = .ok (.aload_n 0, 1) := by decide +kernel
theorem dX3_init_37 : decode cX3_init 37 = .ok (.iconst 0, 1) := by decide +kernel
theorem dX3_init_38 : decode cX3_init 38 = .ok (.putfield 24, 3) := by decide +kernel
theorem dX3_init_41 : decode cX3_init 41 = .ok (.aload_n 0, 1) := by decide +kernel
theorem dX3_init_42 : decode cX3_init 42 = .ok (.iconst 0, 1) := by decide +kernel
theorem dX3_init_43 : decode cX3_init 43 = .ok (.putfield 28, 3) := by decide +kernel
theorem dX3_init_46 : decode cX3_init 46 = .ok (.iconst 0, 1) := by decide +kernel
theorem dX3_init_47 : decode cX3_init 47 = .ok (.istore_n 1, 1) := by decide +kernel
theorem dX3_init_48 : decode cX3_init 48 = .ok (.iload_n 1, 1) := by decide +kernel
theorem dX3_init_49 : decode cX3_init 49 = .ok (.bipush 10, 2) := by decide +kernel
theorem dX3_init_51 : decode cX3_init 51 = .ok (.if_icmp .ge 26, 3) := by decide +kernel
theorem dX3_init_54 : decode cX3_init 54 = .ok (.aload_n 0, 1) := by decide +kernel
theorem dX3_init_55 : decode cX3_init 55 = .ok (.getfield 9, 3) := by decide +kernel
theorem dX3_init_58 : decode cX3_init 58 = .ok (.iload_n 1, 1) := by decide +kernel
theorem dX3_init_59 : decode cX3_init 59 = .ok (.sipush 200, 3) := by decide +kernel
theorem dX3_init_62 : decode cX3_init 62 = .ok (.iastore, 1) := by decide +kernel
theorem dX3_init_63 : decode cX3_init 63 = .ok (.aload_n 0, 1) := by decide +kernel
theorem dX3_init_64 : decode cX3_init 64 = .ok (.getfield 21, 3) := by decide +kernel
theorem dX3_init_67 : decode cX3_init 67 = .ok (.iload_n 1, 1) := by decide +kernel
theorem dX3_init_68 : decode cX3_init 68 = .ok (.bipush (-9), 2) := by decide +kernel
theorem dX3_init_70 : decode cX3_init 70 = .ok (.iastore, 1) := by decide +kernel
theorem dX3_init_71 : decode cX3_init 71 = .ok (.iinc 1 1, 3) := by decide +kernel
theorem dX3_init_74 : decode cX3_init 74 = .ok (.goto (-26), 3) := by decide +kernel
theorem dX3_init_77 : decode cX3_init 77 = .ok (.return_, 1) := by decide +kernel
set_option maxRecDepth 20000 in
theorem ggX3_fill_X2_isPlace : GoodIn wsX3_fill wsX2_isPlace := goodIn_r _ [11, 12, 44, 45, 46, 47, 48, 49, 50] (by decide +kernel) (by decide +kernel)
set_option maxRecDepth 20000 in
theorem gX3_fill_X2_isPlace : GoodIn wsX3_fill (wsV RX3 32 RX2 yX2_isPlace wsX2_isPlace) := goodIn_app (goodIn_of _ (by decide +kernel)) ggX3_fill_X2_isPlace
set_option maxRecDepth 20000 in
theorem ggX3_fill_X7_isFilledPlace : GoodIn wsX3_fill wsX7_isFilledPlace := goodIn_r _ [17, 18, 19, 20, 16, 21, 22, 23, 51, 52] (by decide +kernel) (by decide +kernel)
set_option maxRecDepth 20000 in
theorem gX3_fill_X7_isFilledPlace : GoodIn wsX3_fill (wsV RX3 38 RX7 yX7_isFilledPlace wsX7_isFilledPlace) := goodIn_app (goodIn_of _ (by decide +kernel)) ggX3_fill_X7_isFilledPlace
set_option maxRecDepth 20000 in
theorem ggX3_fill_X2_lengthOf : GoodIn wsX3_fill wsX2_lengthOf := goodIn_r _ [27, 12, 28, 44, 45, 46, 47, 48, 49, 50] (by decide +kernel) (by decide +kernel)
set_option maxRecDepth 20000 in
theorem gX3_fill_X2_lengthOf : GoodIn wsX3_fill (wsV RX3 43 RX2 yX2_lengthOf wsX2_lengthOf) := goodIn_app (goodIn_of _ (by decide +kernel)) ggX3_fill_X2_lengthOf
set_option maxRecDepth 20000 in
theorem ggX3_fill_X7_figureAt : GoodIn wsX3_fill wsX7_figureAt := goodIn_r _ [32, 18, 19, 20, 16, 21, 22, 23, 51, 52] (by decide +kernel) (by decide +kernel)
set_option maxRecDepth 20000 in
theorem gX3_fill_X7_figureAt : GoodIn wsX3_fill (wsV RX3 47 RX7 yX7_figureAt wsX7_figureAt) := goodIn_app (goodIn_of _ (by decide +kernel)) ggX3_fill_X7_figureAt
set_option maxRecDepth 20000 in
theorem ggX3_fill_X7_bytesOfPlace : GoodIn wsX3_fill wsX7_bytesOfPlace := goodIn_r _ [36, 37, 14, 15, 16, 17, 18, 19, 20, 21, 22, 23, 51, 52] (by decide +kernel) (by decide +kernel)
set_option maxRecDepth 20000 in
theorem gX3_fill_X7_bytesOfPlace : GoodIn wsX3_fill (wsV RX3 50 RX7 yX7_bytesOfPlace wsX7_bytesOfPlace) := goodIn_app (goodIn_of _ (by decide +kernel)) ggX3_fill_X7_bytesOfPlace
theorem dX3_fill_0 : decode cX3_fill 0 = .ok (.iconst 4, 1) := by decide +kernel
theorem dX3_fill_1 : decode cX3_fill 1 = .ok (.istore_n 3, 1) := by decide +kernel
theorem dX3_fill_2 : decode cX3_fill 2 = .ok (.iconst 0, 1) := by decide +kernel
theorem dX3_fill_3 : decode cX3_fill 3 = .ok (.istore 4, 2) := by decide +kernel
theorem dX3_fill_5 : decode cX3_fill 5 = .ok (.iload 4, 2) := by decide +kernel
theorem dX3_fill_7 : decode cX3_fill 7 = .ok (.bipush 10, 2) := by decide +kernel
theorem dX3_fill_9 : decode cX3_fill 9 = .ok (.if_icmp .ge 125, 3) := by decide +kernel
theorem dX3_fill_12 : decode cX3_fill 12 = .ok (.aload_n 1, 1) := by decide +kernel
theorem dX3_fill_13 : decode cX3_fill 13 = .ok (.iload 4, 2) := by decide +kernel
theorem dX3_fill_15 : decode cX3_fill 15 = .ok (.invokevirtual 32, 3) := by decide +kernel
theorem dX3_fill_18 : decode cX3_fill 18 = .ok (.ifCond .eq 15, 3) := by decide +kernel
theorem dX3_fill_21 : decode cX3_fill 21 = .ok (.aload_n 2, 1) := by decide +kernel
theorem dX3_fill_22 : decode cX3_fill 22 = .ok (.iload_n 3, 1) := by decide +kernel
theorem dX3_fill_23 : decode cX3_fill 23 = .ok (.invokevirtual 38, 3) := by decide +kernel
theorem dX3_fill_26 : decode cX3_fill 26 = .ok (.ifCond .eq 7, 3) := by decide +kernel
theorem dX3_fill_29 : decode cX3_fill 29 = .ok (.iconst 1, 1) := by decide +kernel
theorem dX3_fill_30 : decode cX3_fill 30 = .ok (.goto 4, 3) := by decide +kernel
theorem dX3_fill_33 : decode cX3_fill 33 = .ok (.iconst 0, 1) := by decide +kernel
theorem dX3_fill_34 : decode cX3_fill 34 = .ok (.istore 5, 2) := by decide +kernel
theorem dX3_fill_36 : decode cX3_fill 36 = .ok (.aload_n 0, 1) := by decide +kernel
theorem dX3_fill_37 : decode cX3_fill 37 = .ok (.getfield 9, 3) := by decide +kernel
theorem dX3_fill_40 : decode cX3_fill 40 = .ok (.iload 4, 2) := by decide +kernel
theorem dX3_fill_42 : decode cX3_fill 42 = .ok (.iload 5, 2) := by decide +kernel
theorem dX3_fill_44 : decode cX3_fill 44 = .ok (.ifCond .eq 8, 3) := by decide +kernel
theorem dX3_fill_47 : decode cX3_fill 47 = .ok (.iload 4, 2) := by decide +kernel
theorem dX3_fill_49 : decode cX3_fill 49 = .ok (.goto 6, 3) := by decide +kernel
theorem dX3_fill_52 : decode cX3_fill 52 = .ok (.sipush 200, 3) := by decide +kernel
theorem dX3_fill_55 : decode cX3_fill 55 = .ok (.iastore, 1) := by decide +kernel
theorem dX3_fill_56 : decode cX3_fill 56 = .ok (.aload_n 0, 1) := by decide +kernel
theorem dX3_fill_57 : decode cX3_fill 57 = .ok (.getfield 21, 3) := by decide +kernel
theorem dX3_fill_60 : decode cX3_fill 60 = .ok (.iload 4, 2) := by decide +kernel
theorem dX3_fill_62 : decode cX3_fill 62 = .ok (.iload 5, 2) := by decide +kernel
theorem dX3_fill_64 : decode cX3_fill 64 = .ok (.ifCond .eq 8, 3) := by decide +kernel
theorem dX3_fill_67 : decode cX3_fill 67 = .ok (.iload 4, 2) := by decide +kernel
theorem dX3_fill_69 : decode cX3_fill 69 = .ok (.goto 5, 3) := by decide +kernel
theorem dX3_fill_72 : decode cX3_fill 72 = .ok (.bipush (-9), 2) := by decide +kernel
theorem dX3_fill_74 : decode cX3_fill 74 = .ok (.iastore, 1) := by decide +kernel
theorem dX3_fill_75 : decode cX3_fill 75 = .ok (.aload_n 0, 1) := by decide +kernel
theorem dX3_fill_76 : decode cX3_fill 76 = .ok (.getfield 15, 3) := by decide +kernel
theorem dX3_fill_79 : decode cX3_fill 79 = .ok (.iload 4, 2) := by decide +kernel
theorem dX3_fill_81 : decode cX3_fill 81 = .ok (.iload 5, 2) := by decide +kernel
theorem dX3_fill_83 : decode cX3_fill 83 = .ok (.ifCond .eq 12, 3) := by decide +kernel
theorem dX3_fill_86 : decode cX3_fill 86 = .ok (.aload_n 1, 1) := by decide +kernel
theorem dX3_fill_87 : decode cX3_fill 87 = .ok (.iload 4, 2) := by decide +kernel
theorem dX3_fill_89 : decode cX3_fill 89 = .ok (.invokevirtual 43, 3) := by decide +kernel
theorem dX3_fill_92 : decode cX3_fill 92 = .ok (.goto 4, 3) := by decide +kernel
theorem dX3_fill_95 : decode cX3_fill 95 = .ok (.iconst 0, 1) := by decide +kernel
theorem dX3_fill_96 : decode cX3_fill 96 = .ok (.iastore, 1) := by decide +kernel
theorem dX3_fill_97 : decode cX3_fill 97 = .ok (.aload_n 0, 1) := by decide +kernel
theorem dX3_fill_98 : decode cX3_fill 98 = .ok (.getfield 18, 3) := by decide +kernel
theorem dX3_fill_101 : decode cX3_fill 101 = .ok (.iload 4, 2) := by decide +kernel
theorem dX3_fill_103 : decode cX3_fill 103 = .ok (.iload 5, 2) := by decide +kernel
theorem dX3_fill_105 : decode cX3_fill 105 = .ok (.ifCond .eq 13, 3) := by decide +kernel
theorem dX3_fill_108 : decode cX3_fill 108 = .ok (.aload_n 2, 1) := by decide +kernel
theorem dX3_fill_109 : decode cX3_fill 109 = .ok (.iload_n 3, 1) := by decide +kernel
theorem dX3_fill_110 : decode cX3_fill 110 = .ok (.iconst 5, 1) := by decide +kernel
theorem dX3_fill_111 : decode cX3_fill 111 = .ok (.iadd, 1) := by decide +kernel
theorem dX3_fill_112 : decode cX3_fill 112 = .ok (.invokevirtual 47, 3) := by decide +kernel
theorem dX3_fill_115 : decode cX3_fill 115 = .ok (.goto 4, 3) := by decide +kernel
theorem dX3_fill_118 : decode cX3_fill 118 = .ok (.iconst 0, 1) := by decide +kernel
theorem dX3_fill_119 : decode cX3_fill 119 = .ok (.iastore, 1) := by decide +kernel
theorem dX3_fill_120 : decode cX3_fill 120 = .ok (.iload_n 3, 1) := by decide +kernel
theorem dX3_fill_121 : decode cX3_fill 121 = .ok (.aload_n 2, 1) := by decide +kernel
theorem dX3_fill_122 : decode cX3_fill 122 = .ok (.iload_n 3, 1) := by decide +kernel
theorem dX3_fill_123 : decode cX3_fill 123 = .ok (.invokevirtual 50, 3) := by decide +kernel
theorem dX3_fill_126 : decode cX3_fill 126 = .ok (.iadd, 1) := by decide +kernel
theorem dX3_fill_127 : decode cX3_fill 127 = .ok (.istore_n 3, 1) := by decide +kernel
theorem dX3_fill_128 : decode cX3_fill 128 = .ok (.iinc 4 1, 3) := by decide +kernel
theorem dX3_fill_131 : decode cX3_fill 131 = .ok (.goto (-126), 3) := by decide +kernel
theorem dX3_fill_134 : decode cX3_fill 134 = .ok (.aload_n 0, 1) := by decide +kernel
theorem dX3_fill_135 : decode cX3_fill 135 = .ok (.iconst 0, 1) := by decide +kernel
theorem dX3_fill_136 : decode cX3_fill 136 = .ok (.putfield 24, 3) := by decide +kernel
theorem dX3_fill_139 : decode cX3_fill 139 = .ok (.aload_n 0, 1) := by decide +kernel
theorem dX3_fill_140 : decode cX3_fill 140 = .ok (.iconst 0, 1) := by decide +kernel
theorem dX3_fill_141 : decode cX3_fill 141 = .ok (.putfield 28, 3) := by decide +kernel
theorem dX3_fill_144 : decode cX3_fill 144 = .ok (.return_, 1) := by decide +kernel
theorem dX3_copyFrom_0 : decode cX3_copyFrom 0 = .ok (.aload_n 1, 1) := by decide +kernel
theorem dX3_copyFrom_1 : decode cX3_copyFrom 1 = .ok (.getfield 9, 3) := by decide +kernel
theorem dX3_copyFrom_4 : decode cX3_copyFrom 4 = .ok (.iconst 0, 1) := by decide +kernel
theorem dX3_copyFrom_5 : decode cX3_copyFrom 5 = .ok (.aload_n 0, 1) := by decide +kernel
theorem dX3_copyFrom_6 : decode cX3_copyFrom 6 = .ok (.getfield 9, 3) := by decide +kernel
theorem dX3_copyFrom_9 : decode cX3_copyFrom 9 = .ok (.iconst 0, 1) := by decide +kernel
theorem dX3_copyFrom_10 : decode cX3_copyFrom 10 = .ok (.bipush 10, 2) := by decide +kernel
theorem dX3_copyFrom_12 : decode cX3_copyFrom 12 = .ok (.invokestatic 53, 3) := by decide +kernel
theorem dX3_copyFrom_15 : decode cX3_copyFrom 15 = .ok (.aload_n 1, 1) := by decide +kernel
theorem dX3_copyFrom_16 : decode cX3_copyFrom 16 = .ok (.getfield 15, 3) := by decide +kernel
theorem dX3_copyFrom_19 : decode cX3_copyFrom 19 = .ok (.iconst 0, 1) := by decide +kernel
theorem dX3_copyFrom_20 : decode cX3_copyFrom 20 = .ok (.aload_n 0, 1) := by decide +kernel
theorem dX3_copyFrom_21 : decode cX3_copyFrom 21 = .ok (.getfield 15, 3) := by decide +kernel
theorem dX3_copyFrom_24 : decode cX3_copyFrom 24 = .ok (.iconst 0, 1) := by decide +kernel
theorem dX3_copyFrom_25 : decode cX3_copyFrom 25 = .ok (.bipush 10, 2) := by decide +kernel
theorem dX3_copyFrom_27 : decode cX3_copyFrom 27 = .ok (.invokestatic 53, 3) := by decide +kernel
theorem dX3_copyFrom_30 : decode cX3_copyFrom 30 = .ok (.aload_n 1, 1) := by decide +kernel
theorem dX3_copyFrom_31 : decode cX3_copyFrom 31 = .ok (.getfield 18, 3) := by decide +kernel
theorem dX3_copyFrom_34 : decode cX3_copyFrom 34 = .ok (.iconst 0, 1) := by decide +kernel
theorem dX3_copyFrom_35 : decode cX3_copyFrom 35 = .ok (.aload_n 0, 1) := by decide +kernel
theorem dX3_copyFrom_36 : decode cX3_copyFrom 36 = .ok (.getfield 18, 3) := by decide +kernel
theorem dX3_copyFrom_39 : decode cX3_copyFrom 39 = .ok (.iconst 0, 1) := by decide +kernel
theorem dX3_copyFrom_40 : decode cX3_copyFrom 40 = .ok (.bipush 10, 2) := by decide +kernel
theorem dX3_copyFrom_42 : decode cX3_copyFrom 42 = .ok (.invokestatic 53, 3) := by decide +kernel
theorem dX3_copyFrom_45 : decode cX3_copyFrom 45 = .ok (.aload_n 1, 1) := by decide +kernel
theorem dX3_copyFrom_46 : decode cX3_copyFrom 46 = .ok (.getfield 21, 3) := by decide +kernel
theorem dX3_copyFrom_49 : decode cX3_copyFrom 49 = .ok (.iconst 0, 1) := by decide +kernel
theorem dX3_copyFrom_50 : decode cX3_copyFrom 50 = .ok (.aload_n 0, 1) := by decide +kernel
theorem dX3_copyFrom_51 : decode cX3_copyFrom 51 = .ok (.getfield 21, 3) := by decide +kernel
theorem dX3_copyFrom_54 : decode cX3_copyFrom 54 = .ok (.iconst 0, 1) := by decide +kernel
theorem dX3_copyFrom_55 : decode cX3_copyFrom 55 = .ok (.bipush 10, 2) := by decide +kernel
theorem dX3_copyFrom_57 : decode cX3_copyFrom 57 = .ok (.invokestatic 53, 3) := by decide +kernel
theorem dX3_copyFrom_60 : decode cX3_copyFrom 60 = .ok (.aload_n 0, 1) := by decide +kernel
theorem dX3_copyFrom_61 : decode cX3_copyFrom 61 = .ok (.aload_n 1, 1) := by decide +kernel
theorem dX3_copyFrom_62 : decode cX3_copyFrom 62 = .ok (.getfield 24, 3) := by decide +kernel
theorem dX3_copyFrom_65 : decode cX3_copyFrom 65 = .ok (.putfield 24, 3) := by decide +kernel
theorem dX3_copyFrom_68 : decode cX3_copyFrom 68 = .ok (.aload_n 0, 1) := by decide +kernel
theorem dX3_copyFrom_69 : decode cX3_copyFrom 69 = .ok (.aload_n 1, 1) := by decide +kernel
theorem dX3_copyFrom_70 : decode cX3_copyFrom 70 = .ok (.getfield 28, 3) := by decide +kernel
theorem dX3_copyFrom_73 : decode cX3_copyFrom 73 = .ok (.putfield 28, 3) := by decide +kernel
theorem dX3_copyFrom_76 : decode cX3_copyFrom 76 = .ok (.return_, 1) := by decide +kernel
theorem dX3_whereIs_0 : decode cX3_whereIs 0 = .ok (.iload_n 1, 1) := by decide +kernel
theorem dX3_whereIs_1 : decode cX3_whereIs 1 = .ok (.ifCond .lt 21, 3) := by decide +kernel
theorem dX3_whereIs_4 : decode cX3_whereIs 4 = .ok (.iload_n 1, 1) := by decide +kernel
theorem dX3_whereIs_5 : decode cX3_whereIs 5 = .ok (.aload_n 0, 1) := by decide +kernel
theorem dX3_whereIs_6 : decode cX3_whereIs 6 = .ok (.getfield 9, 3) := by decide +kernel
theorem dX3_whereIs_9 : decode cX3_whereIs 9 = .ok (.arraylength, 1) := by decide +kernel
theorem dX3_whereIs_10 : decode cX3_whereIs 10 = .ok (.if_icmp .ge 12, 3) := by decide +kernel
theorem dX3_whereIs_13 : decode cX3_whereIs 13 = .ok (.aload_n 0, 1) := by decide +kernel
theorem dX3_whereIs_14 : decode cX3_whereIs 14 = .ok (.getfield 9, 3) := by decide +kernel
theorem dX3_whereIs_17 : decode cX3_whereIs 17 = .ok (.iload_n 1, 1) := by decide +kernel
theorem dX3_whereIs_18 : decode cX3_whereIs 18 = .ok (.iaload, 1) := by decide +kernel
theorem dX3_whereIs_19 : decode cX3_whereIs 19 = .ok (.goto 6, 3) := by decide +kernel
theorem dX3_whereIs_22 : decode cX3_whereIs 22 = .ok (.sipush 200, 3) := by decide +kernel
theorem dX3_whereIs_25 : decode cX3_whereIs 25 = .ok (.ireturn, 1) := by decide +kernel
theorem dX3_lengthOf_0 : decode cX3_lengthOf 0 = .ok (.iload_n 1, 1) := by decide +kernel
theorem dX3_lengthOf_1 : decode cX3_lengthOf 1 = .ok (.ifCond .lt 21, 3) := by decide +kernel
theorem dX3_lengthOf_4 : decode cX3_lengthOf 4 = .ok (.iload_n 1, 1) := by decide +kernel
theorem dX3_lengthOf_5 : decode cX3_lengthOf 5 = .ok (.aload_n 0, 1) := by decide +kernel
theorem dX3_lengthOf_6 : decode cX3_lengthOf 6 = .ok (.getfield 15, 3) := by decide +kernel
theorem dX3_lengthOf_9 : decode cX3_lengthOf 9 = .ok (.arraylength, 1) := by decide +kernel
theorem dX3_lengthOf_10 : decode cX3_lengthOf 10 = .ok (.if_icmp .ge 12, 3) := by decide +kernel
theorem dX3_lengthOf_13 : decode cX3_lengthOf 13 = .ok (.aload_n 0, 1) := by decide +kernel
theorem dX3_lengthOf_14 : decode cX3_lengthOf 14 = .ok (.getfield 15, 3) := by decide +kernel
theorem dX3_lengthOf_17 : decode cX3_lengthOf 17 = .ok (.iload_n 1, 1) := by decide +kernel
theorem dX3_lengthOf_18 : decode cX3_lengthOf 18 = .ok (.iaload, 1) := by decide +kernel
theorem dX3_lengthOf_19 : decode cX3_lengthOf 19 = .ok (.goto 4, 3) := by decide +kernel
theorem dX3_lengthOf_22 : decode cX3_lengthOf 22 = .ok (.iconst 0, 1) := by decide +kernel
theorem dX3_lengthOf_23 : decode cX3_lengthOf 23 = .ok (.ireturn, 1) := by decide +kernel
theorem dX3_wormsIn_0 : decode cX3_wormsIn 0 = .ok (.iload_n 1, 1) := by decide +kernel
theorem dX3_wormsIn_1 : decode cX3_wormsIn 1 = .ok (.ifCond .lt 21, 3) := by decide +kernel
theorem dX3_wormsIn_4 : decode cX3_wormsIn 4 = .ok (.iload_n 1, 1) := by decide +kernel
theorem dX3_wormsIn_5 : decode cX3_wormsIn 5 = .ok (.aload_n 0, 1) := by decide +kernel
theorem dX3_wormsIn_6 : decode cX3_wormsIn 6 = .ok (.getfield 18, 3) := by decide +kernel
theorem dX3_wormsIn_9 : decode cX3_wormsIn 9 = .ok (.arraylength, 1) := by decide +kernel
theorem dX3_wormsIn_10 : decode cX3_wormsIn 10 = .ok (.if_icmp .ge 12, 3) := by decide +kernel
theorem dX3_wormsIn_13 : decode cX3_wormsIn 13 = .ok (.aload_n 0, 1) := by decide +kernel
theorem dX3_wormsIn_14 : decode cX3_wormsIn 14 = .ok (.getfield 18, 3) := by decide +kernel
theorem dX3_wormsIn_17 : decode cX3_wormsIn 17 = .ok (.iload_n 1, 1) := by decide +kernel
theorem dX3_wormsIn_18 : decode cX3_wormsIn 18 = .ok (.iaload, 1) := by decide +kernel
theorem dX3_wormsIn_19 : decode cX3_wormsIn 19 = .ok (.goto 4, 3) := by decide +kernel
theorem dX3_wormsIn_22 : decode cX3_wormsIn 22 = .ok (.iconst 0, 1) := by decide +kernel
theorem dX3_wormsIn_23 : decode cX3_wormsIn 23 = .ok (.ireturn, 1) := by decide +kernel
theorem dX3_timberIn_0 : decode cX3_timberIn 0 = .ok (.iload_n 1, 1) := by decide +kernel
theorem dX3_timberIn_1 : decode cX3_timberIn 1 = .ok (.ifCond .lt 21, 3) := by decide +kernel
theorem dX3_timberIn_4 : decode cX3_timberIn 4 = .ok (.iload_n 1, 1) := by decide +kernel
theorem dX3_timberIn_5 : decode cX3_timberIn 5 = .ok (.aload_n 0, 1) := by decide +kernel
theorem dX3_timberIn_6 : decode cX3_timberIn 6 = .ok (.getfield 21, 3) := by decide +kernel
theorem dX3_timberIn_9 : decode cX3_timberIn 9 = .ok (.arraylength, 1) := by decide +kernel
theorem dX3_timberIn_10 : decode cX3_timberIn 10 = .ok (.if_icmp .ge 12, 3) := by decide +kernel
theorem dX3_timberIn_13 : decode cX3_timberIn 13 = .ok (.aload_n 0, 1) := by decide +kernel
theorem dX3_timberIn_14 : decode cX3_timberIn 14 = .ok (.getfield 21, 3) := by decide +kernel
theorem dX3_timberIn_17 : decode cX3_timberIn 17 = .ok (.iload_n 1, 1) := by decide +kernel
theorem dX3_timberIn_18 : decode cX3_timberIn 18 = .ok (.iaload, 1) := by decide +kernel
theorem dX3_timberIn_19 : decode cX3_timberIn 19 = .ok (.goto 5, 3) := by decide +kernel
theorem dX3_timberIn_22 : decode cX3_timberIn 22 = .ok (.bipush (-9), 2) := by decide +kernel
theorem dX3_timberIn_24 : decode cX3_timberIn 24 = .ok (.ireturn, 1) := by decide +kernel
theorem dX3_isOpen_0 : decode cX3_isOpen 0 = .ok (.iload_n 1, 1) := by decide +kernel
theorem dX3_isOpen_1 : decode cX3_isOpen 1 = .ok (.ifCond .lt 23, 3) := by decide +kernel
theorem dX3_isOpen_4 : decode cX3_isOpen 4 = .ok (.iload_n 1, 1) := by decide +kernel
theorem dX3_isOpen_5 : decode cX3_isOpen 5 = .ok (.aload_n 0, 1) := by decide +kernel
theorem dX3_isOpen_6 : decode cX3_isOpen 6 = .ok (.getfield 21, 3) := by decide +kernel
theorem dX3_isOpen_9 : decode cX3_isOpen 9 = .ok (.arraylength, 1) := by decide +kernel
theorem dX3_isOpen_10 : decode cX3_isOpen 10 = .ok (.if_icmp .ge 14, 3) := by decide +kernel
theorem dX3_isOpen_13 : decode cX3_isOpen 13 = .ok (.aload_n 0, 1) := by decide +kernel
theorem dX3_isOpen_14 : decode cX3_isOpen 14 = .ok (.getfield 21, 3) := by decide +kernel
theorem dX3_isOpen_17 : decode cX3_isOpen 17 = .ok (.iload_n 1, 1) := by decide +kernel
theorem dX3_isOpen_18 : decode cX3_isOpen 18 = .ok (.iaload, 1) := by decide +kernel
theorem dX3_isOpen_19 : decode cX3_isOpen 19 = .ok (.bipush (-9), 2) := by decide +kernel
theorem dX3_isOpen_21 : decode cX3_isOpen 21 = .ok (.if_icmp .ne 7, 3) := by decide +kernel
theorem dX3_isOpen_24 : decode cX3_isOpen 24 = .ok (.iconst 1, 1) := by decide +kernel
theorem dX3_isOpen_25 : decode cX3_isOpen 25 = .ok (.goto 4, 3) := by decide +kernel
theorem dX3_isOpen_28 : decode cX3_isOpen 28 = .ok (.iconst 0, 1) := by decide +kernel
theorem dX3_isOpen_29 : decode cX3_isOpen 29 = .ok (.ireturn, 1) := by decide +kernel
theorem dX3_waterInside_0 : decode cX3_waterInside 0 = .ok (.aload_n 0, 1) := by decide +kernel
theorem dX3_waterInside_1 : decode cX3_waterInside 1 = .ok (.getfield 24, 3) := by decide +kernel
theorem dX3_waterInside_4 : decode cX3_waterInside 4 = .ok (.ireturn, 1) := by decide +kernel
theorem dX3_isSunk_0 : decode cX3_isSunk 0 = .ok (.aload_n 0, 1) := by decide +kernel
theorem dX3_isSunk_1 : decode cX3_isSunk 1 = .ok (.getfield 28, 3) := by decide +kernel
theorem dX3_isSunk_4 : decode cX3_isSunk 4 = .ok (.ireturn, 1) := by decide +kernel
theorem dX3_bringTo_0 : decode cX3_bringTo 0 = .ok (.iload_n 1, 1) := by decide +kernel
theorem dX3_bringTo_1 : decode cX3_bringTo 1 = .ok (.ifCond .lt 12, 3) := by decide +kernel
theorem dX3_bringTo_4 : decode cX3_bringTo 4 = .ok (.iload_n 1, 1) := by decide +kernel
theorem dX3_bringTo_5 : decode cX3_bringTo 5 = .ok (.aload_n 0, 1) := by decide +kernel
theorem dX3_bringTo_6 : decode cX3_bringTo 6 = .ok (.getfield 9, 3) := by decide +kernel
theorem dX3_bringTo_9 : decode cX3_bringTo 9 = .ok (.arraylength, 1) := by decide +kernel
theorem dX3_bringTo_10 : decode cX3_bringTo 10 = .ok (.if_icmp .lt 4, 3) := by decide +kernel
theorem dX3_bringTo_13 : decode cX3_bringTo 13 = .ok (.return_, 1) := by decide +kernel
theorem dX3_bringTo_14 : decode cX3_bringTo 14 = .ok (.aload_n 0, 1) := by decide +kernel
theorem dX3_bringTo_15 : decode cX3_bringTo 15 = .ok (.getfield 9, 3) := by decide +kernel
theorem dX3_bringTo_18 : decode cX3_bringTo 18 = .ok (.iload_n 1, 1) := by decide +kernel
theorem dX3_bringTo_19 : decode cX3_bringTo 19 = .ok (.iaload, 1) := by decide +kernel
theorem dX3_bringTo_20 : decode cX3_bringTo 20 = .ok (.istore_n 3, 1) := by decide +kernel
theorem dX3_bringTo_21 : decode cX3_bringTo 21 = .ok (.iload_n 3, 1) := by decide +kernel
theorem dX3_bringTo_22 : decode cX3_bringTo 22 = .ok (.ifCond .lt 20, 3) := by decide +kernel
theorem dX3_bringTo_25 : decode cX3_bringTo 25 = .ok (.iload_n 3, 1) := by decide +kernel
theorem dX3_bringTo_26 : decode cX3_bringTo 26 = .ok (.aload_n 0, 1) := by decide +kernel
theorem dX3_bringTo_27 : decode cX3_bringTo 27 = .ok (.getfield 21, 3) := by decide +kernel
theorem dX3_bringTo_30 : decode cX3_bringTo 30 = .ok (.arraylength, 1) := by decide +kernel
theorem dX3_bringTo_31 : decode cX3_bringTo 31 = .ok (.if_icmp .ge 11, 3) := by decide +kernel
theorem dX3_bringTo_34 : decode cX3_bringTo 34 = .ok (.aload_n 0, 1) := by decide +kernel
theorem dX3_bringTo_35 : decode cX3_bringTo 35 = .ok (.getfield 21, 3) := by decide +kernel
theorem dX3_bringTo_38 : decode cX3_bringTo 38 = .ok (.iload_n 3, 1) := by decide +kernel
theorem dX3_bringTo_39 : decode cX3_bringTo 39 = .ok (.bipush (-9), 2) := by decide +kernel
theorem dX3_bringTo_41 : decode cX3_bringTo 41 = .ok (.iastore, 1) := by decide +kernel
theorem dX3_bringTo_42 : decode cX3_bringTo 42 = .ok (.aload_n 0, 1) := by decide +kernel
theorem dX3_bringTo_43 : decode cX3_bringTo 43 = .ok (.getfield 9, 3) := by decide +kernel
theorem dX3_bringTo_46 : decode cX3_bringTo 46 = .ok (.iload_n 1, 1) := by decide +kernel
theorem dX3_bringTo_47 : decode cX3_bringTo 47 = .ok (.iload_n 2, 1) := by decide +kernel
theorem dX3_bringTo_48 : decode cX3_bringTo 48 = .ok (.iastore, 1) := by decide +kernel
theorem dX3_bringTo_49 : decode cX3_bringTo 49 = .ok (.iload_n 2, 1) := by decide +kernel
theorem dX3_bringTo_50 : decode cX3_bringTo 50 = .ok (.ifCond .lt 19, 3) := by decide +kernel
theorem dX3_bringTo_53 : decode cX3_bringTo 53 = .ok (.iload_n 2, 1) := by decide +kernel
theorem dX3_bringTo_54 : decode cX3_bringTo 54 = .ok (.aload_n 0, 1) := by decide +kernel
theorem dX3_bringTo_55 : decode cX3_bringTo 55 = .ok (.getfield 21, 3) := by decide +kernel
theorem dX3_bringTo_58 : decode cX3_bringTo 58 = .ok (.arraylength, 1) := by decide +kernel
theorem dX3_bringTo_59 : decode cX3_bringTo 59 = .ok (.if_icmp .ge 10, 3) := by decide +kernel
theorem dX3_bringTo_62 : decode cX3_bringTo 62 = .ok (.aload_n 0, 1) := by decide +kernel
theorem dX3_bringTo_63 : decode cX3_bringTo 63 = .ok (.getfield 21, 3) := by decide +kernel
theorem dX3_bringTo_66 : decode cX3_bringTo 66 = .ok (.iload_n 2, 1) := by decide +kernel
theorem dX3_bringTo_67 : decode cX3_bringTo 67 = .ok (.iload_n 1, 1) := by decide +kernel
theorem dX3_bringTo_68 : decode cX3_bringTo 68 = .ok (.iastore, 1) := by decide +kernel
theorem dX3_bringTo_69 : decode cX3_bringTo 69 = .ok (.return_, 1) := by decide +kernel
theorem dX3_cutTo_0 : decode cX3_cutTo 0 = .ok (.iload_n 1, 1) := by decide +kernel
theorem dX3_cutTo_1 : decode cX3_cutTo 1 = .ok (.ifCond .lt 19, 3) := by decide +kernel
theorem dX3_cutTo_4 : decode cX3_cutTo 4 = .ok (.iload_n 1, 1) := by decide +kernel
theorem dX3_cutTo_5 : decode cX3_cutTo 5 = .ok (.aload_n 0, 1) := by decide +kernel
theorem dX3_cutTo_6 : decode cX3_cutTo 6 = .ok (.getfield 15, 3) := by decide +kernel
theorem dX3_cutTo_9 : decode cX3_cutTo 9 = .ok (.arraylength, 1) := by decide +kernel
theorem dX3_cutTo_10 : decode cX3_cutTo 10 = .ok (.if_icmp .ge 10, 3) := by decide +kernel
theorem dX3_cutTo_13 : decode cX3_cutTo 13 = .ok (.aload_n 0, 1) := by decide +kernel
theorem dX3_cutTo_14 : decode cX3_cutTo 14 = .ok (.getfield 15, 3) := by decide +kernel
theorem dX3_cutTo_17 : decode cX3_cutTo 17 = .ok (.iload_n 1, 1) := by decide +kernel
theorem dX3_cutTo_18 : decode cX3_cutTo 18 = .ok (.iload_n 2, 1) := by decide +kernel
theorem dX3_cutTo_19 : decode cX3_cutTo 19 = .ok (.iastore, 1) := by decide +kernel
theorem dX3_cutTo_20 : decode cX3_cutTo 20 = .ok (.return_, 1) := by decide +kernel
theorem dX3_addWorm_0 : decode cX3_addWorm 0 = .ok (.iload_n 1, 1) := by decide +kernel
theorem dX3_addWorm_1 : decode cX3_addWorm 1 = .ok (.ifCond .lt 22, 3) := by decide +kernel
theorem dX3_addWorm_4 : decode cX3_addWorm 4 = .ok (.iload_n 1, 1) := by decide +kernel
theorem dX3_addWorm_5 : decode cX3_addWorm 5 = .ok (.aload_n 0, 1) := by decide +kernel
theorem dX3_addWorm_6 : decode cX3_addWorm 6 = .ok (.getfield 18, 3) := by decide +kernel
theorem dX3_addWorm_9 : decode cX3_addWorm 9 = .ok (.arraylength, 1) := by decide +kernel
theorem dX3_addWorm_10 : decode cX3_addWorm 10 = .ok (.if_icmp .ge 13, 3) := by decide +kernel
theorem dX3_addWorm_13 : decode cX3_addWorm 13 = .ok (.aload_n 0, 1) := by decide +kernel
theorem dX3_addWorm_14 : decode cX3_addWorm 14 = .ok (.getfield 18, 3) := by decide +kernel
theorem dX3_addWorm_17 : decode cX3_addWorm 17 = .ok (.iload_n 1, 1) := by decide +kernel
theorem dX3_addWorm_18 : decode cX3_addWorm 18 = .ok (.dup2, 1) := by decide +kernel
theorem dX3_addWorm_19 : decode cX3_addWorm 19 = .ok (.iaload, 1) := by decide +kernel
theorem dX3_addWorm_20 : decode cX3_addWorm 20 = .ok (.iconst 1, 1) := by decide +kernel
theorem dX3_addWorm_21 : decode cX3_addWorm 21 = .ok (.iadd, 1) := by decide +kernel
theorem dX3_addWorm_22 : decode cX3_addWorm 22 = .ok (.iastore, 1) := by decide +kernel
theorem dX3_addWorm_23 : decode cX3_addWorm 23 = .ok (.return_, 1) := by decide +kernel
theorem dX3_setWater_0 : decode cX3_setWater 0 = .ok (.aload_n 0, 1) := by decide +kernel
theorem dX3_setWater_1 : decode cX3_setWater 1 = .ok (.iload_n 1, 1) := by decide +kernel
theorem dX3_setWater_2 : decode cX3_setWater 2 = .ok (.putfield 24, 3) := by decide +kernel
theorem dX3_setWater_5 : decode cX3_setWater 5 = .ok (.return_, 1) := by decide +kernel
theorem dX3_sink_0 : decode cX3_sink 0 = .ok (.aload_n 0, 1) := by decide +kernel
theorem dX3_sink_1 : decode cX3_sink 1 = .ok (.iconst 1, 1) := by decide +kernel
theorem dX3_sink_2 : decode cX3_sink 2 = .ok (.putfield 28, 3) := by decide +kernel
theorem dX3_sink_5 : decode cX3_sink 5 = .ok (.return_, 1) := by decide +kernel
end
section
theorem dX7_init_0 : decode cX7_init 0 = .ok (.aload_n 0, 1) := by decide +kernel
theorem dX7_init_1 : decode cX7_init 1 = .ok (.invokespecial 3, 3) := by decide +kernel
theorem dX7_init_4 : decode cX7_init 4 = .ok (.aload_n 0, 1) := by decide +kernel
theorem dX7_init_5 : decode cX7_init 5 = .ok (.bipush 72, 2) := by decide +kernel
theorem dX7_init_7 : decode cX7_init 7 = .ok (.newarray .byte, 2) := by decide +kernel
theorem dX7_init_9 : decode cX7_init 9 = .ok (.putfield 9, 3) := by decide +kernel
theorem dX7_init_12 : decode cX7_init 12 = .ok (.aload_n 0, 1) := by decide +kernel
theorem dX7_init_13 : decode cX7_init 13 = .ok (.iconst 0, 1) := by decide +kernel
theorem dX7_init_14 : decode cX7_init 14 = .ok (.putfield 15, 3) := by decide +kernel
theorem dX7_init_17 : decode cX7_init 17 = .ok (.return_, 1) := by decide +kernel
theorem dX7_size_0 : decode cX7_size 0 = .ok (.aload_n 0, 1) := by decide +kernel
theorem dX7_size_1 : decode cX7_size 1 = .ok (.getfield 15, 3) := by decide +kernel
theorem dX7_size_4 : decode cX7_size 4 = .ok (.ireturn, 1) := by decide +kernel
theorem dX7_hasRoomFor_0 : decode cX7_hasRoomFor 0 = .ok (.aload_n 0, 1) := by decide +kernel
theorem dX7_hasRoomFor_1 : decode cX7_hasRoomFor 1 = .ok (.getfield 15, 3) := by decide +kernel
theorem dX7_hasRoomFor_4 : decode cX7_hasRoomFor 4 = .ok (.iload_n 1, 1) := by decide +kernel
theorem dX7_hasRoomFor_5 : decode cX7_hasRoomFor 5 = .ok (.iadd, 1) := by decide +kernel
theorem dX7_hasRoomFor_6 : decode cX7_hasRoomFor 6 = .ok (.aload_n 0, 1) := by decide +kernel
theorem dX7_hasRoomFor_7 : decode cX7_hasRoomFor 7 = .ok (.getfield 9, 3) := by decide +kernel
theorem dX7_hasRoomFor_10 : decode cX7_hasRoomFor 10 = .ok (.arraylength, 1) := by decide +kernel
theorem dX7_hasRoomFor_11 : decode cX7_hasRoomFor 11 = .ok (.if_icmp .gt 7, 3) := by decide +kernel
theorem dX7_hasRoomFor_14 : decode cX7_hasRoomFor 14 = .ok (.iconst 1, 1) := by decide +kernel
theorem dX7_hasRoomFor_15 : decode cX7_hasRoomFor 15 = .ok (.goto 4, 3) := by decide +kernel
theorem dX7_hasRoomFor_18 : decode cX7_hasRoomFor 18 = .ok (.iconst 0, 1) := by decide +kernel
theorem dX7_hasRoomFor_19 : decode cX7_hasRoomFor 19 = .ok (.ireturn, 1) := by decide +kernel
theorem dX7_append_0 : decode cX7_append 0 = .ok (.iload_n 1, 1) := by decide +kernel
theorem dX7_append_1 : decode cX7_append 1 = .ok (.iconst 1, 1) := by decide +kernel
theorem dX7_append_2 : decode cX7_append 2 = .ok (.isub, 1) := by decide +kernel
theorem dX7_append_3 : decode cX7_append 3 = .ok (.istore 4, 2) := by decide +kernel
theorem dX7_append_5 : decode cX7_append 5 = .ok (.iload 4, 2) := by decide +kernel
theorem dX7_append_7 : decode cX7_append 7 = .ok (.ifCond .lt 49, 3) := by decide +kernel
theorem dX7_append_10 : decode cX7_append 10 = .ok (.aload_n 0, 1) := by decide +kernel
theorem dX7_append_11 : decode cX7_append 11 = .ok (.getfield 15, 3) := by decide +kernel
theorem dX7_append_14 : decode cX7_append 14 = .ok (.aload_n 0, 1) := by decide +kernel
theorem dX7_append_15 : decode cX7_append 15 = .ok (.getfield 9, 3) := by decide +kernel
theorem dX7_append_18 : decode cX7_append 18 = .ok (.arraylength, 1) := by decide +kernel
theorem dX7_append_19 : decode cX7_append 19 = .ok (.if_icmp .ge 37, 3) := by decide +kernel
theorem dX7_append_22 : decode cX7_append 22 = .ok (.aload_n 0, 1) := by decide +kernel
theorem dX7_append_23 : decode cX7_append 23 = .ok (.getfield 9, 3) := by decide +kernel
theorem dX7_append_26 : decode cX7_append 26 = .ok (.aload_n 0, 1) := by decide +kernel
theorem dX7_append_27 : decode cX7_append 27 = .ok (.getfield 15, 3) := by decide +kernel
theorem dX7_append_30 : decode cX7_append 30 = .ok (.lload_n 2, 1) := by decide +kernel
theorem dX7_append_31 : decode cX7_append 31 = .ok (.bipush 8, 2) := by decide +kernel
theorem dX7_append_33 : decode cX7_append 33 = .ok (.iload 4, 2) := by decide +kernel
theorem dX7_append_35 : decode cX7_append 35 = .ok (.imul, 1) := by decide +kernel
theorem dX7_append_36 : decode cX7_append 36 = .ok (.lshr, 1) := by decide +kernel
theorem dX7_append_37 : decode cX7_append 37 = .ok (.l2i, 1) := by decide +kernel
theorem dX7_append_38 : decode cX7_append 38 = .ok (.i2b, 1) := by decide +kernel
theorem dX7_append_39 : decode cX7_append 39 = .ok (.bastore, 1) := by decide +kernel
theorem dX7_append_40 : decode cX7_append 40 = .ok (.aload_n 0, 1) := by decide +kernel
theorem dX7_append_41 : decode cX7_append 41 = .ok (.dup, 1) := by decide +kernel
theorem dX7_append_42 : decode cX7_append 42 = .ok (.getfield 15, 3) := by decide +kernel
theorem dX7_append_45 : decode cX7_append 45 = .ok (.iconst 1, 1) := by decide +kernel
theorem dX7_append_46 : decode cX7_append 46 = .ok (.iadd, 1) := by decide +kernel
theorem dX7_append_47 : decode cX7_append 47 = .ok (.putfield 15, 3) := by decide +kernel
theorem dX7_append_50 : decode cX7_append 50 = .ok (.iinc 4 (-1), 3) := by decide +kernel
theorem dX7_append_53 : decode cX7_append 53 = .ok (.goto (-48), 3) := by decide +kernel
theorem dX7_append_56 : decode cX7_append 56 = .ok (.return_, 1) := by decide +kernel
theorem dX7_clear_0 : decode cX7_clear 0 = .ok (.aload_n 0, 1) := by decide +kernel
theorem dX7_clear_1 : decode cX7_clear 1 = .ok (.iconst 0, 1) := by decide +kernel
theorem dX7_clear_2 : decode cX7_clear 2 = .ok (.putfield 15, 3) := by decide +kernel
theorem dX7_clear_5 : decode cX7_clear 5 = .ok (.return_, 1) := by decide +kernel
theorem dX7_byteAt_0 : decode cX7_byteAt 0 = .ok (.iload_n 1, 1) := by decide +kernel
theorem dX7_byteAt_1 : decode cX7_byteAt 1 = .ok (.ifCond .lt 33, 3) := by decide +kernel
theorem dX7_byteAt_4 : decode cX7_byteAt 4 = .ok (.iload_n 1, 1) := by decide +kernel
theorem dX7_byteAt_5 : decode cX7_byteAt 5 = .ok (.aload_n 0, 1) := by decide +kernel
theorem dX7_byteAt_6 : decode cX7_byteAt 6 = .ok (.getfield 15, 3) := by decide +kernel
theorem dX7_byteAt_9 : decode cX7_byteAt 9 = .ok (.if_icmp .ge 25, 3) := by decide +kernel
theorem dX7_byteAt_12 : decode cX7_byteAt 12 = .ok (.iload_n 1, 1) := by decide +kernel
theorem dX7_byteAt_13 : decode cX7_byteAt 13 = .ok (.aload_n 0, 1) := by decide +kernel
theorem dX7_byteAt_14 : decode cX7_byteAt 14 = .ok (.getfield 9, 3) := by decide +kernel
theorem dX7_byteAt_17 : decode cX7_byteAt 17 = .ok (.arraylength, 1) := by decide +kernel
theorem dX7_byteAt_18 : decode cX7_byteAt 18 = .ok (.if_icmp .ge 16, 3) := by decide +kernel
theorem dX7_byteAt_21 : decode cX7_byteAt 21 = .ok (.aload_n 0, 1) := by decide +kernel
theorem dX7_byteAt_22 : decode cX7_byteAt 22 = .ok (.getfield 9, 3) := by decide +kernel
theorem dX7_byteAt_25 : decode cX7_byteAt 25 = .ok (.iload_n 1, 1) := by decide +kernel
theorem dX7_byteAt_26 : decode cX7_byteAt 26 = .ok (.baload, 1) := by decide +kernel
theorem dX7_byteAt_27 : decode cX7_byteAt 27 = .ok (.sipush 255, 3) := by decide +kernel
theorem dX7_byteAt_30 : decode cX7_byteAt 30 = .ok (.iand, 1) := by decide +kernel
theorem dX7_byteAt_31 : decode cX7_byteAt 31 = .ok (.goto 4, 3) := by decide +kernel
theorem dX7_byteAt_34 : decode cX7_byteAt 34 = .ok (.iconst (-1), 1) := by decide +kernel
theorem dX7_byteAt_35 : decode cX7_byteAt 35 = .ok (.ireturn, 1) := by decide +kernel
set_option maxRecDepth 20000 in
theorem ggX7_figureAt_X7_byteAt : GoodIn wsX7_figureAt wsX7_byteAt := goodIn_r _ [5, 6, 7, 8, 9] (by decide +kernel) (by decide +kernel)
set_option maxRecDepth 20000 in
theorem gX7_figureAt_X7_byteAt : GoodIn wsX7_figureAt (wsV RX7 19 RX7 yX7_byteAt wsX7_byteAt) := goodIn_app (goodIn_of _ (by decide +kernel)) ggX7_figureAt_X7_byteAt
theorem dX7_figureAt_0 : decode cX7_figureAt 0 = .ok (.aload_n 0, 1) := by decide +kernel
theorem dX7_figureAt_1 : decode cX7_figureAt 1 = .ok (.iload_n 1, 1) := by decide +kernel
theorem dX7_figureAt_2 : decode cX7_figureAt 2 = .ok (.invokevirtual 19, 3) := by decide +kernel
theorem dX7_figureAt_5 : decode cX7_figureAt 5 = .ok (.bipush 48, 2) := by decide +kernel
theorem dX7_figureAt_7 : decode cX7_figureAt 7 = .ok (.isub, 1) := by decide +kernel
theorem dX7_figureAt_8 : decode cX7_figureAt 8 = .ok (.ireturn, 1) := by decide +kernel
set_option maxRecDepth 20000 in
theorem ggX7_isFilledPlace_X7_byteAt : GoodIn wsX7_isFilledPlace wsX7_byteAt := goodIn_r _ [5, 6, 7, 8, 9] (by decide +kernel) (by decide +kernel)
set_option maxRecDepth 20000 in
theorem gX7_isFilledPlace_X7_byteAt : GoodIn wsX7_isFilledPlace (wsV RX7 19 RX7 yX7_byteAt wsX7_byteAt) := goodIn_app (goodIn_of _ (by decide +kernel)) ggX7_isFilledPlace_X7_byteAt
theorem dX7_isFilledPlace_0 : decode cX7_isFilledPlace 0 = .ok (.aload_n 0, 1) := by decide +kernel
theorem dX7_isFilledPlace_1 : decode cX7_isFilledPlace 1 = .ok (.iload_n 1, 1) := by decide +kernel
theorem dX7_isFilledPlace_2 : decode cX7_isFilledPlace 2 = .ok (.invokevirtual 19, 3) := by decide +kernel
theorem dX7_isFilledPlace_5 : decode cX7_isFilledPlace 5 = .ok (.bipush 80, 2) := by decide +kernel
theorem dX7_isFilledPlace_7 : decode cX7_isFilledPlace 7 = .ok (.if_icmp .ne 7, 3) := by decide +kernel
theorem dX7_isFilledPlace_10 : decode cX7_isFilledPlace 10 = .ok (.iconst 1, 1) := by decide +kernel
theorem dX7_isFilledPlace_11 : decode cX7_isFilledPlace 11 = .ok (.goto 4, 3) := by decide +kernel
theorem dX7_isFilledPlace_14 : decode cX7_isFilledPlace 14 = .ok (.iconst 0, 1) := by decide +kernel
theorem dX7_isFilledPlace_15 : decode cX7_isFilledPlace 15 = .ok (.ireturn, 1) := by decide +kernel
set_option maxRecDepth 20000 in
theorem ggX7_bytesOfPlace_X7_isFilledPlace : GoodIn wsX7_bytesOfPlace wsX7_isFilledPlace := goodIn_r _ [5, 6, 7, 8, 4, 9, 10, 11, 12, 13] (by decide +kernel) (by decide +kernel)
set_option maxRecDepth 20000 in
theorem gX7_bytesOfPlace_X7_isFilledPlace : GoodIn wsX7_bytesOfPlace (wsV RX7 23 RX7 yX7_isFilledPlace wsX7_isFilledPlace) := goodIn_app (goodIn_of _ (by decide +kernel)) ggX7_bytesOfPlace_X7_isFilledPlace
theorem dX7_bytesOfPlace_0 : decode cX7_bytesOfPlace 0 = .ok (.aload_n 0, 1) := by decide +kernel
theorem dX7_bytesOfPlace_1 : decode cX7_bytesOfPlace 1 = .ok (.iload_n 1, 1) := by decide +kernel
theorem dX7_bytesOfPlace_2 : decode cX7_bytesOfPlace 2 = .ok (.invokevirtual 23, 3) := by decide +kernel
theorem dX7_bytesOfPlace_5 : decode cX7_bytesOfPlace 5 = .ok (.ifCond .eq 8, 3) := by decide +kernel
theorem dX7_bytesOfPlace_8 : decode cX7_bytesOfPlace 8 = .ok (.bipush 6, 2) := by decide +kernel
theorem dX7_bytesOfPlace_10 : decode cX7_bytesOfPlace 10 = .ok (.goto 4, 3) := by decide +kernel
theorem dX7_bytesOfPlace_13 : decode cX7_bytesOfPlace 13 = .ok (.iconst 4, 1) := by decide +kernel
theorem dX7_bytesOfPlace_14 : decode cX7_bytesOfPlace 14 = .ok (.ireturn, 1) := by decide +kernel
set_option maxRecDepth 20000 in
theorem ggX7_firstFault_X7_faultInHead : GoodIn wsX7_firstFault wsX7_faultInHead := goodIn_r _ [6, 7, 8, 9, 5, 10, 1, 11, 12, 13, 14, 15, 16, 17, 18, 19, 36, 37] (by decide +kernel) (by decide +kernel)
set_option maxRecDepth 20000 in
theorem gX7_firstFault_X7_faultInHead : GoodIn wsX7_firstFault (wsV RX7 27 RX7 yX7_faultInHead wsX7_faultInHead) := goodIn_app (goodIn_of _ (by decide +kernel)) ggX7_firstFault_X7_faultInHead
set_option maxRecDepth 20000 in
theorem ggX7_firstFault_X7_faultInPlace : GoodIn wsX7_firstFault wsX7_faultInPlace := goodIn_r _ [23, 24, 25, 26, 5, 27, 7, 8, 9, 10, 1, 11, 12, 13, 14, 15, 16, 17, 18, 19, 28, 29, 30, 31, 36, 37] (by decide +kernel) (by decide +kernel)
set_option maxRecDepth 20000 in
theorem gX7_firstFault_X7_faultInPlace : GoodIn wsX7_firstFault (wsV RX7 31 RX7 yX7_faultInPlace wsX7_faultInPlace) := goodIn_app (goodIn_of _ (by decide +kernel)) ggX7_firstFault_X7_faultInPlace
set_option maxRecDepth 20000 in
theorem ggX7_firstFault_X7_bytesOfPlace : GoodIn wsX7_firstFault wsX7_bytesOfPlace := goodIn_r _ [35, 24, 25, 26, 5, 27, 7, 8, 9, 10, 1, 11, 36, 37] (by decide +kernel) (by decide +kernel)
set_option maxRecDepth 20000 in
theorem gX7_firstFault_X7_bytesOfPlace : GoodIn wsX7_firstFault (wsV RX7 35 RX7 yX7_bytesOfPlace wsX7_bytesOfPlace) := goodIn_app (goodIn_of _ (by decide +kernel)) ggX7_firstFault_X7_bytesOfPlace
theorem dX7_firstFault_0 : decode cX7_firstFault 0 = .ok (.aload_n 0, 1) := by decide +kernel
theorem dX7_firstFault_1 : decode cX7_firstFault 1 = .ok (.invokevirtual 27, 3) := by decide +kernel
theorem dX7_firstFault_4 : decode cX7_firstFault 4 = .ok (.istore_n 1, 1) := by decide +kernel
theorem dX7_firstFault_5 : decode cX7_firstFault 5 = .ok (.iload_n 1, 1) := by decide +kernel
theorem dX7_firstFault_6 : decode cX7_firstFault 6 = .ok (.bipush (-9), 2) := by decide +kernel
theorem dX7_firstFault_8 : decode cX7_firstFault 8 = .ok (.if_icmp .eq 5, 3) := by decide +kernel
theorem dX7_firstFault_11 : decode cX7_firstFault 11 = .ok (.iload_n 1, 1) := by decide +kernel
theorem dX7_firstFault_12 : decode cX7_firstFault 12 = .ok (.ireturn, 1) := by decide +kernel
theorem dX7_firstFault_13 : decode cX7_firstFault 13 = .ok (.iconst 4, 1) := by decide +kernel
theorem dX7_firstFault_14 : decode cX7_firstFault 14 = .ok (.istore_n 2, 1) := by decide +kernel
theorem dX7_firstFault_15 : decode cX7_firstFault 15 = .ok (.iconst 0, 1) := by decide +kernel
theorem dX7_firstFault_16 : decode cX7_firstFault 16 = .ok (.istore_n 3, 1) := by decide +kernel
theorem dX7_firstFault_17 : decode cX7_firstFault 17 = .ok (.iload_n 3, 1) := by decide +kernel
theorem dX7_firstFault_18 : decode cX7_firstFault 18 = .ok (.bipush 10, 2) := by decide +kernel
theorem dX7_firstFault_20 : decode cX7_firstFault 20 = .ok (.if_icmp .ge 43, 3) := by decide +kernel
theorem dX7_firstFault_23 : decode cX7_firstFault 23 = .ok (.iload_n 2, 1) := by decide +kernel
theorem dX7_firstFault_24 : decode cX7_firstFault 24 = .ok (.aload_n 0, 1) := by decide +kernel
theorem dX7_firstFault_25 : decode cX7_firstFault 25 = .ok (.getfield 15, 3) := by decide +kernel
theorem dX7_firstFault_28 : decode cX7_firstFault 28 = .ok (.if_icmp .ge 35, 3) := by decide +kernel
theorem dX7_firstFault_31 : decode cX7_firstFault 31 = .ok (.aload_n 0, 1) := by decide +kernel
theorem dX7_firstFault_32 : decode cX7_firstFault 32 = .ok (.iload_n 2, 1) := by decide +kernel
theorem dX7_firstFault_33 : decode cX7_firstFault 33 = .ok (.iload_n 3, 1) := by decide +kernel
theorem dX7_firstFault_34 : decode cX7_firstFault 34 = .ok (.invokevirtual 31, 3) := by decide +kernel
theorem dX7_firstFault_37 : decode cX7_firstFault 37 = .ok (.istore 4, 2) := by decide +kernel
theorem dX7_firstFault_39 : decode cX7_firstFault 39 = .ok (.iload 4, 2) := by decide +kernel
theorem dX7_firstFault_41 : decode cX7_firstFault 41 = .ok (.bipush (-9), 2) := by decide +kernel
theorem dX7_firstFault_43 : decode cX7_firstFault 43 = .ok (.if_icmp .eq 6, 3) := by decide +kernel
theorem dX7_firstFault_46 : decode cX7_firstFault 46 = .ok (.iload 4, 2) := by decide +kernel
theorem dX7_firstFault_48 : decode cX7_firstFault 48 = .ok (.ireturn, 1) := by decide +kernel
theorem dX7_firstFault_49 : decode cX7_firstFault 49 = .ok (.iload_n 2, 1) := by decide +kernel
theorem dX7_firstFault_50 : decode cX7_firstFault 50 = .ok (.aload_n 0, 1) := by decide +kernel
theorem dX7_firstFault_51 : decode cX7_firstFault 51 = .ok (.iload_n 2, 1) := by decide +kernel
theorem dX7_firstFault_52 : decode cX7_firstFault 52 = .ok (.invokevirtual 35, 3) := by decide +kernel
theorem dX7_firstFault_55 : decode cX7_firstFault 55 = .ok (.iadd, 1) := by decide +kernel
theorem dX7_firstFault_56 : decode cX7_firstFault 56 = .ok (.istore_n 2, 1) := by decide +kernel
theorem dX7_firstFault_57 : decode cX7_firstFault 57 = .ok (.iinc 3 1, 3) := by decide +kernel
theorem dX7_firstFault_60 : decode cX7_firstFault 60 = .ok (.goto (-43), 3) := by decide +kernel
theorem dX7_firstFault_63 : decode cX7_firstFault 63 = .ok (.iload_n 2, 1) := by decide +kernel
theorem dX7_firstFault_64 : decode cX7_firstFault 64 = .ok (.aload_n 0, 1) := by decide +kernel
theorem dX7_firstFault_65 : decode cX7_firstFault 65 = .ok (.getfield 15, 3) := by decide +kernel
theorem dX7_firstFault_68 : decode cX7_firstFault 68 = .ok (.if_icmp .ge 7, 3) := by decide +kernel
theorem dX7_firstFault_71 : decode cX7_firstFault 71 = .ok (.iload_n 2, 1) := by decide +kernel
theorem dX7_firstFault_72 : decode cX7_firstFault 72 = .ok (.goto 5, 3) := by decide +kernel
theorem dX7_firstFault_75 : decode cX7_firstFault 75 = .ok (.bipush (-9), 2) := by decide +kernel
theorem dX7_firstFault_77 : decode cX7_firstFault 77 = .ok (.ireturn, 1) := by decide +kernel
set_option maxRecDepth 20000 in
theorem ggX7_faultInHead_X7_byteAt : GoodIn wsX7_faultInHead wsX7_byteAt := goodIn_r _ [5, 6, 7, 16, 17] (by decide +kernel) (by decide +kernel)
set_option maxRecDepth 20000 in
theorem gX7_faultInHead_X7_byteAt : GoodIn wsX7_faultInHead (wsV RX7 19 RX7 yX7_byteAt wsX7_byteAt) := goodIn_app (goodIn_of _ (by decide +kernel)) ggX7_faultInHead_X7_byteAt
set_option maxRecDepth 20000 in
theorem ggX7_faultInHead_X7_isFigure : GoodIn wsX7_faultInHead wsX7_isFigure := goodIn_r _ [11, 12, 13, 14, 4, 15, 1, 2, 3, 5, 6, 7, 16, 17] (by decide +kernel) (by decide +kernel)
set_option maxRecDepth 20000 in
theorem gX7_faultInHead_X7_isFigure : GoodIn wsX7_faultInHead (wsV RX7 38 RX7 yX7_isFigure wsX7_isFigure) := goodIn_app (goodIn_of _ (by decide +kernel)) ggX7_faultInHead_X7_isFigure
set_option maxRecDepth 20000 in
theorem ggX7_faultInHead_X7_figureAt : GoodIn wsX7_faultInHead wsX7_figureAt := goodIn_r _ [15, 1, 2, 3, 4, 5, 6, 7, 16, 17] (by decide +kernel) (by decide +kernel)
set_option maxRecDepth 20000 in
theorem gX7_faultInHead_X7_figureAt : GoodIn wsX7_faultInHead (wsV RX7 42 RX7 yX7_figureAt wsX7_figureAt) := goodIn_app (goodIn_of _ (by decide +kernel)) ggX7_faultInHead_X7_figureAt
theorem dX7_faultInHead_0 : decode cX7_faultInHead 0 = .ok (.aload_n 0, 1) := by decide +kernel
theorem dX7_faultInHead_1 : decode cX7_faultInHead 1 = .ok (.iconst 0, 1) := by decide +kernel
theorem dX7_faultInHead_2 : decode cX7_faultInHead 2 = .ok (.invokevirtual 19, 3) := by decide +kernel
theorem dX7_faultInHead_5 : decode cX7_faultInHead 5 = .ok (.bipush 83, 2) := by decide +kernel
theorem dX7_faultInHead_7 : decode cX7_faultInHead 7 = .ok (.if_icmp .eq 5, 3) := by decide +kernel
theorem dX7_faultInHead_10 : decode cX7_faultInHead 10 = .ok (.iconst 0, 1) := by decide +kernel
theorem dX7_faultInHead_11 : decode cX7_faultInHead 11 = .ok (.ireturn, 1) := by decide +kernel
theorem dX7_faultInHead_12 : decode cX7_faultInHead 12 = .ok (.aload_n 0, 1) := by decide +kernel
theorem dX7_faultInHead_13 : decode cX7_faultInHead 13 = .ok (.iconst 1, 1) := by decide +kernel
theorem dX7_faultInHead_14 : decode cX7_faultInHead 14 = .ok (.iconst 0, 1) := by decide +kernel
theorem dX7_faultInHead_15 : decode cX7_faultInHead 15 = .ok (.bipush 9, 2) := by decide +kernel
theorem dX7_faultInHead_17 : decode cX7_faultInHead 17 = .ok (.invokevirtual 38, 3) := by decide +kernel
theorem dX7_faultInHead_20 : decode cX7_faultInHead 20 = .ok (.ifCond .ne 5, 3) := by decide +kernel
theorem dX7_faultInHead_23 : decode cX7_faultInHead 23 = .ok (.iconst 1, 1) := by decide +kernel
theorem dX7_faultInHead_24 : decode cX7_faultInHead 24 = .ok (.ireturn, 1) := by decide +kernel
theorem dX7_faultInHead_25 : decode cX7_faultInHead 25 = .ok (.aload_n 0, 1) := by decide +kernel
theorem dX7_faultInHead_26 : decode cX7_faultInHead 26 = .ok (.iconst 2, 1) := by decide +kernel
theorem dX7_faultInHead_27 : decode cX7_faultInHead 27 = .ok (.iconst 0, 1) := by decide +kernel
theorem dX7_faultInHead_28 : decode cX7_faultInHead 28 = .ok (.bipush 9, 2) := by decide +kernel
theorem dX7_faultInHead_30 : decode cX7_faultInHead 30 = .ok (.invokevirtual 38, 3) := by decide +kernel
theorem dX7_faultInHead_33 : decode cX7_faultInHead 33 = .ok (.ifCond .ne 5, 3) := by decide +kernel
theorem dX7_faultInHead_36 : decode cX7_faultInHead 36 = .ok (.iconst 2, 1) := by decide +kernel
theorem dX7_faultInHead_37 : decode cX7_faultInHead 37 = .ok (.ireturn, 1) := by decide +kernel
theorem dX7_faultInHead_38 : decode cX7_faultInHead 38 = .ok (.aload_n 0, 1) := by decide +kernel
theorem dX7_faultInHead_39 : decode cX7_faultInHead 39 = .ok (.iconst 2, 1) := by decide +kernel
theorem dX7_faultInHead_40 : decode cX7_faultInHead 40 = .ok (.invokevirtual 42, 3) := by decide +kernel
theorem dX7_faultInHead_43 : decode cX7_faultInHead 43 = .ok (.ifCond .ne 7, 3) := by decide +kernel
theorem dX7_faultInHead_46 : decode cX7_faultInHead 46 = .ok (.iconst 1, 1) := by decide +kernel
theorem dX7_faultInHead_47 : decode cX7_faultInHead 47 = .ok (.goto 4, 3) := by decide +kernel
theorem dX7_faultInHead_50 : decode cX7_faultInHead 50 = .ok (.iconst 0, 1) := by decide +kernel
theorem dX7_faultInHead_51 : decode cX7_faultInHead 51 = .ok (.istore_n 1, 1) := by decide +kernel
theorem dX7_faultInHead_52 : decode cX7_faultInHead 52 = .ok (.aload_n 0, 1) := by decide +kernel
theorem dX7_faultInHead_53 : decode cX7_faultInHead 53 = .ok (.iconst 3, 1) := by decide +kernel
theorem dX7_faultInHead_54 : decode cX7_faultInHead 54 = .ok (.iload_n 1, 1) := by decide +kernel
theorem dX7_faultInHead_55 : decode cX7_faultInHead 55 = .ok (.bipush 9, 2) := by decide +kernel
theorem dX7_faultInHead_57 : decode cX7_faultInHead 57 = .ok (.invokevirtual 38, 3) := by decide +kernel
theorem dX7_faultInHead_60 : decode cX7_faultInHead 60 = .ok (.ifCond .eq 8, 3) := by decide +kernel
theorem dX7_faultInHead_63 : decode cX7_faultInHead 63 = .ok (.bipush (-9), 2) := by decide +kernel
theorem dX7_faultInHead_65 : decode cX7_faultInHead 65 = .ok (.goto 4, 3) := by decide +kernel
theorem dX7_faultInHead_68 : decode cX7_faultInHead 68 = .ok (.iconst 3, 1) := by decide +kernel
theorem dX7_faultInHead_69 : decode cX7_faultInHead 69 = .ok (.ireturn, 1) := by decide +kernel
set_option maxRecDepth 20000 in
theorem ggX7_faultInPlace_X7_isFilledPlace : GoodIn wsX7_faultInPlace wsX7_isFilledPlace := goodIn_r _ [5, 6, 7, 8, 4, 9, 10, 11, 24, 25] (by decide +kernel) (by decide +kernel)
set_option maxRecDepth 20000 in
theorem gX7_faultInPlace_X7_isFilledPlace : GoodIn wsX7_faultInPlace (wsV RX7 23 RX7 yX7_isFilledPlace wsX7_isFilledPlace) := goodIn_app (goodIn_of _ (by decide +kernel)) ggX7_faultInPlace_X7_isFilledPlace
set_option maxRecDepth 20000 in
theorem ggX7_faultInPlace_X7_byteAt : GoodIn wsX7_faultInPlace wsX7_byteAt := goodIn_r _ [9, 10, 11, 24, 25] (by decide +kernel) (by decide +kernel)
set_option maxRecDepth 20000 in
theorem gX7_faultInPlace_X7_byteAt : GoodIn wsX7_faultInPlace (wsV RX7 19 RX7 yX7_byteAt wsX7_byteAt) := goodIn_app (goodIn_of _ (by decide +kernel)) ggX7_faultInPlace_X7_byteAt
set_option maxRecDepth 20000 in
theorem ggX7_faultInPlace_X7_isFigure : GoodIn wsX7_faultInPlace wsX7_isFigure := goodIn_r _ [15, 16, 17, 18, 4, 19, 6, 7, 8, 9, 10, 11, 24, 25] (by decide +kernel) (by decide +kernel)
set_option maxRecDepth 20000 in
theorem gX7_faultInPlace_X7_isFigure : GoodIn wsX7_faultInPlace (wsV RX7 38 RX7 yX7_isFigure wsX7_isFigure) := goodIn_app (goodIn_of _ (by decide +kernel)) ggX7_faultInPlace_X7_isFigure
set_option maxRecDepth 20000 in
theorem ggX7_faultInPlace_X7_faultInTimber : GoodIn wsX7_faultInPlace wsX7_faultInTimber := goodIn_r _ [23, 12, 13, 14, 4, 15, 16, 17, 18, 19, 6, 7, 8, 9, 10, 11, 24, 25] (by decide +kernel) (by decide +kernel)
set_option maxRecDepth 20000 in
theorem gX7_faultInPlace_X7_faultInTimber : GoodIn wsX7_faultInPlace (wsV RX7 45 RX7 yX7_faultInTimber wsX7_faultInTimber) := goodIn_app (goodIn_of _ (by decide +kernel)) ggX7_faultInPlace_X7_faultInTimber
theorem dX7_faultInPlace_0 : decode cX7_faultInPlace 0 = .ok (.aload_n 0, 1) := by decide +kernel
theorem dX7_faultInPlace_1 : decode cX7_faultInPlace 1 = .ok (.iload_n 1, 1) := by decide +kernel
theorem dX7_faultInPlace_2 : decode cX7_faultInPlace 2 = .ok (.invokevirtual 23, 3) := by decide +kernel
theorem dX7_faultInPlace_5 : decode cX7_faultInPlace 5 = .ok (.ifCond .ne 15, 3) := by decide +kernel
theorem dX7_faultInPlace_8 : decode cX7_faultInPlace 8 = .ok (.aload_n 0, 1) := by decide +kernel
theorem dX7_faultInPlace_9 : decode cX7_faultInPlace 9 = .ok (.iload_n 1, 1) := by decide +kernel
theorem dX7_faultInPlace_10 : decode cX7_faultInPlace 10 = .ok (.invokevirtual 19, 3) := by decide +kernel
theorem dX7_faultInPlace_13 : decode cX7_faultInPlace 13 = .ok (.bipush 79, 2) := by decide +kernel
theorem dX7_faultInPlace_15 : decode cX7_faultInPlace 15 = .ok (.if_icmp .eq 5, 3) := by decide +kernel
theorem dX7_faultInPlace_18 : decode cX7_faultInPlace 18 = .ok (.iload_n 1, 1) := by decide +kernel
theorem dX7_faultInPlace_19 : decode cX7_faultInPlace 19 = .ok (.ireturn, 1) := by decide +kernel
theorem dX7_faultInPlace_20 : decode cX7_faultInPlace 20 = .ok (.aload_n 0, 1) := by decide +kernel
theorem dX7_faultInPlace_21 : decode cX7_faultInPlace 21 = .ok (.iload_n 1, 1) := by decide +kernel
theorem dX7_faultInPlace_22 : decode cX7_faultInPlace 22 = .ok (.iconst 1, 1) := by decide +kernel
theorem dX7_faultInPlace_23 : decode cX7_faultInPlace 23 = .ok (.iadd, 1) := by decide +kernel
theorem dX7_faultInPlace_24 : decode cX7_faultInPlace 24 = .ok (.iconst 1, 1) := by decide +kernel
theorem dX7_faultInPlace_25 : decode cX7_faultInPlace 25 = .ok (.bipush 9, 2) := by decide +kernel
theorem dX7_faultInPlace_27 : decode cX7_faultInPlace 27 = .ok (.invokevirtual 38, 3) := by decide +kernel
theorem dX7_faultInPlace_30 : decode cX7_faultInPlace 30 = .ok (.ifCond .ne 7, 3) := by decide +kernel
theorem dX7_faultInPlace_33 : decode cX7_faultInPlace 33 = .ok (.iload_n 1, 1) := by decide +kernel
theorem dX7_faultInPlace_34 : decode cX7_faultInPlace 34 = .ok (.iconst 1, 1) := by decide +kernel
theorem dX7_faultInPlace_35 : decode cX7_faultInPlace 35 = .ok (.iadd, 1) := by decide +kernel
theorem dX7_faultInPlace_36 : decode cX7_faultInPlace 36 = .ok (.ireturn, 1) := by decide +kernel
theorem dX7_faultInPlace_37 : decode cX7_faultInPlace 37 = .ok (.aload_n 0, 1) := by decide +kernel
theorem dX7_faultInPlace_38 : decode cX7_faultInPlace 38 = .ok (.iload_n 1, 1) := by decide +kernel
theorem dX7_faultInPlace_39 : decode cX7_faultInPlace 39 = .ok (.iconst 2, 1) := by decide +kernel
theorem dX7_faultInPlace_40 : decode cX7_faultInPlace 40 = .ok (.iadd, 1) := by decide +kernel
theorem dX7_faultInPlace_41 : decode cX7_faultInPlace 41 = .ok (.iconst 0, 1) := by decide +kernel
theorem dX7_faultInPlace_42 : decode cX7_faultInPlace 42 = .ok (.bipush 9, 2) := by decide +kernel
theorem dX7_faultInPlace_44 : decode cX7_faultInPlace 44 = .ok (.invokevirtual 38, 3) := by decide +kernel
theorem dX7_faultInPlace_47 : decode cX7_faultInPlace 47 = .ok (.ifCond .ne 7, 3) := by decide +kernel
theorem dX7_faultInPlace_50 : decode cX7_faultInPlace 50 = .ok (.iload_n 1, 1) := by decide +kernel
theorem dX7_faultInPlace_51 : decode cX7_faultInPlace 51 = .ok (.iconst 2, 1) := by decide +kernel
theorem dX7_faultInPlace_52 : decode cX7_faultInPlace 52 = .ok (.iadd, 1) := by decide +kernel
theorem dX7_faultInPlace_53 : decode cX7_faultInPlace 53 = .ok (.ireturn, 1) := by decide +kernel
theorem dX7_faultInPlace_54 : decode cX7_faultInPlace 54 = .ok (.aload_n 0, 1) := by decide +kernel
theorem dX7_faultInPlace_55 : decode cX7_faultInPlace 55 = .ok (.iload_n 1, 1) := by decide +kernel
theorem dX7_faultInPlace_56 : decode cX7_faultInPlace 56 = .ok (.iconst 3, 1) := by decide +kernel
theorem dX7_faultInPlace_57 : decode cX7_faultInPlace 57 = .ok (.iadd, 1) := by decide +kernel
theorem dX7_faultInPlace_58 : decode cX7_faultInPlace 58 = .ok (.invokevirtual 19, 3) := by decide +kernel
theorem dX7_faultInPlace_61 : decode cX7_faultInPlace 61 = .ok (.bipush 45, 2) := by decide +kernel
theorem dX7_faultInPlace_63 : decode cX7_faultInPlace 63 = .ok (.if_icmp .eq 21, 3) := by decide +kernel
theorem dX7_faultInPlace_66 : decode cX7_faultInPlace 66 = .ok (.aload_n 0, 1) := by decide +kernel
theorem dX7_faultInPlace_67 : decode cX7_faultInPlace 67 = .ok (.iload_n 1, 1) := by decide +kernel
theorem dX7_faultInPlace_68 : decode cX7_faultInPlace 68 = .ok (.iconst 3, 1) := by decide +kernel
theorem dX7_faultInPlace_69 : decode cX7_faultInPlace 69 = .ok (.iadd, 1) := by decide +kernel
theorem dX7_faultInPlace_70 : decode cX7_faultInPlace 70 = .ok (.iconst 0, 1) := by decide +kernel
theorem dX7_faultInPlace_71 : decode cX7_faultInPlace 71 = .ok (.iload_n 2, 1) := by decide +kernel
theorem dX7_faultInPlace_72 : decode cX7_faultInPlace 72 = .ok (.iconst 1, 1) := by decide +kernel
theorem dX7_faultInPlace_73 : decode cX7_faultInPlace 73 = .ok (.isub, 1) := by decide +kernel
theorem dX7_faultInPlace_74 : decode cX7_faultInPlace 74 = .ok (.invokevirtual 38, 3) := by decide +kernel
theorem dX7_faultInPlace_77 : decode cX7_faultInPlace 77 = .ok (.ifCond .ne 7, 3) := by decide +kernel
theorem dX7_faultInPlace_80 : decode cX7_faultInPlace 80 = .ok (.iload_n 1, 1) := by decide +kernel
theorem dX7_faultInPlace_81 : decode cX7_faultInPlace 81 = .ok (.iconst 3, 1) := by decide +kernel
theorem dX7_faultInPlace_82 : decode cX7_faultInPlace 82 = .ok (.iadd, 1) := by decide +kernel
theorem dX7_faultInPlace_83 : decode cX7_faultInPlace 83 = .ok (.ireturn, 1) := by decide +kernel
theorem dX7_faultInPlace_84 : decode cX7_faultInPlace 84 = .ok (.aload_n 0, 1) := by decide +kernel
theorem dX7_faultInPlace_85 : decode cX7_faultInPlace 85 = .ok (.iload_n 1, 1) := by decide +kernel
theorem dX7_faultInPlace_86 : decode cX7_faultInPlace 86 = .ok (.invokevirtual 23, 3) := by decide +kernel
theorem dX7_faultInPlace_89 : decode cX7_faultInPlace 89 = .ok (.ifCond .eq 11, 3) := by decide +kernel
theorem dX7_faultInPlace_92 : decode cX7_faultInPlace 92 = .ok (.aload_n 0, 1) := by decide +kernel
theorem dX7_faultInPlace_93 : decode cX7_faultInPlace 93 = .ok (.iload_n 1, 1) := by decide +kernel
theorem dX7_faultInPlace_94 : decode cX7_faultInPlace 94 = .ok (.invokevirtual 45, 3) := by decide +kernel
theorem dX7_faultInPlace_97 : decode cX7_faultInPlace 97 = .ok (.goto 5, 3) := by decide +kernel
theorem dX7_faultInPlace_100 : decode cX7_faultInPlace 100 = .ok (.bipush (-9), 2) := by decide +kernel
theorem dX7_faultInPlace_102 : decode cX7_faultInPlace 102 = .ok (.ireturn, 1) := by decide +kernel
set_option maxRecDepth 20000 in
theorem ggX7_faultInTimber_X7_isFigure : GoodIn wsX7_faultInTimber wsX7_isFigure := goodIn_r _ [5, 6, 7, 8, 4, 9, 10, 11, 12, 13, 14, 15, 16, 17] (by decide +kernel) (by decide +kernel)
set_option maxRecDepth 20000 in
theorem gX7_faultInTimber_X7_isFigure : GoodIn wsX7_faultInTimber (wsV RX7 38 RX7 yX7_isFigure wsX7_isFigure) := goodIn_app (goodIn_of _ (by decide +kernel)) ggX7_faultInTimber_X7_isFigure
theorem dX7_faultInTimber_0 : decode cX7_faultInTimber 0 = .ok (.aload_n 0, 1) := by decide +kernel
theorem dX7_faultInTimber_1 : decode cX7_faultInTimber 1 = .ok (.iload_n 1, 1) := by decide +kernel
theorem dX7_faultInTimber_2 : decode cX7_faultInTimber 2 = .ok (.iconst 4, 1) := by decide +kernel
theorem dX7_faultInTimber_3 : decode cX7_faultInTimber 3 = .ok (.iadd, 1) := by decide +kernel
theorem dX7_faultInTimber_4 : decode cX7_faultInTimber 4 = .ok (.iconst 0, 1) := by decide +kernel
theorem dX7_faultInTimber_5 : decode cX7_faultInTimber 5 = .ok (.iconst 2, 1) := by decide +kernel
theorem dX7_faultInTimber_6 : decode cX7_faultInTimber 6 = .ok (.invokevirtual 38, 3) := by decide +kernel
theorem dX7_faultInTimber_9 : decode cX7_faultInTimber 9 = .ok (.ifCond .ne 7, 3) := by decide +kernel
theorem dX7_faultInTimber_12 : decode cX7_faultInTimber 12 = .ok (.iload_n 1, 1) := by decide +kernel
theorem dX7_faultInTimber_13 : decode cX7_faultInTimber 13 = .ok (.iconst 4, 1) := by decide +kernel
theorem dX7_faultInTimber_14 : decode cX7_faultInTimber 14 = .ok (.iadd, 1) := by decide +kernel
theorem dX7_faultInTimber_15 : decode cX7_faultInTimber 15 = .ok (.ireturn, 1) := by decide +kernel
theorem dX7_faultInTimber_16 : decode cX7_faultInTimber 16 = .ok (.aload_n 0, 1) := by decide +kernel
theorem dX7_faultInTimber_17 : decode cX7_faultInTimber 17 = .ok (.iload_n 1, 1) := by decide +kernel
theorem dX7_faultInTimber_18 : decode cX7_faultInTimber 18 = .ok (.iconst 5, 1) := by decide +kernel
theorem dX7_faultInTimber_19 : decode cX7_faultInTimber 19 = .ok (.iadd, 1) := by decide +kernel
theorem dX7_faultInTimber_20 : decode cX7_faultInTimber 20 = .ok (.iconst 0, 1) := by decide +kernel
theorem dX7_faultInTimber_21 : decode cX7_faultInTimber 21 = .ok (.bipush 9, 2) := by decide +kernel
theorem dX7_faultInTimber_23 : decode cX7_faultInTimber 23 = .ok (.invokevirtual 38, 3) := by decide +kernel
theorem dX7_faultInTimber_26 : decode cX7_faultInTimber 26 = .ok (.ifCond .eq 8, 3) := by decide +kernel
theorem dX7_faultInTimber_29 : decode cX7_faultInTimber 29 = .ok (.bipush (-9), 2) := by decide +kernel
theorem dX7_faultInTimber_31 : decode cX7_faultInTimber 31 = .ok (.goto 6, 3) := by decide +kernel
theorem dX7_faultInTimber_34 : decode cX7_faultInTimber 34 = .ok (.iload_n 1, 1) := by decide +kernel
theorem dX7_faultInTimber_35 : decode cX7_faultInTimber 35 = .ok (.iconst 5, 1) := by decide +kernel
theorem dX7_faultInTimber_36 : decode cX7_faultInTimber 36 = .ok (.iadd, 1) := by decide +kernel
theorem dX7_faultInTimber_37 : decode cX7_faultInTimber 37 = .ok (.ireturn, 1) := by decide +kernel
set_option maxRecDepth 20000 in
theorem ggX7_isFigure_X7_figureAt : GoodIn wsX7_isFigure wsX7_figureAt := goodIn_r _ [5, 6, 7, 8, 4, 9, 10, 11, 12, 13] (by decide +kernel) (by decide +kernel)
set_option maxRecDepth 20000 in
theorem gX7_isFigure_X7_figureAt : GoodIn wsX7_isFigure (wsV RX7 42 RX7 yX7_figureAt wsX7_figureAt) := goodIn_app (goodIn_of _ (by decide +kernel)) ggX7_isFigure_X7_figureAt
theorem dX7_isFigure_0 : decode cX7_isFigure 0 = .ok (.aload_n 0, 1) := by decide +kernel
theorem dX7_isFigure_1 : decode cX7_isFigure 1 = .ok (.iload_n 1, 1) := by decide +kernel
theorem dX7_isFigure_2 : decode cX7_isFigure 2 = .ok (.invokevirtual 42, 3) := by decide +kernel
theorem dX7_isFigure_5 : decode cX7_isFigure 5 = .ok (.iload_n 2, 1) := by decide +kernel
theorem dX7_isFigure_6 : decode cX7_isFigure 6 = .ok (.if_icmp .lt 16, 3) := by decide +kernel
theorem dX7_isFigure_9 : decode cX7_isFigure 9 = .ok (.aload_n 0, 1) := by decide +kernel
theorem dX7_isFigure_10 : decode cX7_isFigure 10 = .ok (.iload_n 1, 1) := by decide +kernel
theorem dX7_isFigure_11 : decode cX7_isFigure 11 = .ok (.invokevirtual 42, 3) := by decide +kernel
theorem dX7_isFigure_14 : decode cX7_isFigure 14 = .ok (.iload_n 3, 1) := by decide +kernel
theorem dX7_isFigure_15 : decode cX7_isFigure 15 = .ok (.if_icmp .gt 7, 3) := by decide +kernel
theorem dX7_isFigure_18 : decode cX7_isFigure 18 = .ok (.iconst 1, 1) := by decide +kernel
theorem dX7_isFigure_19 : decode cX7_isFigure 19 = .ok (.goto 4, 3) := by decide +kernel
theorem dX7_isFigure_22 : decode cX7_isFigure 22 = .ok (.iconst 0, 1) := by decide +kernel
theorem dX7_isFigure_23 : decode cX7_isFigure 23 = .ok (.ireturn, 1) := by decide +kernel
end
section
theorem dX2_init_0 : decode cX2_init 0 = .ok (.aload_n 0, 1) := by decide +kernel
theorem dX2_init_1 : decode cX2_init 1 = .ok (.invokespecial 3, 3) := by decide +kernel
theorem dX2_init_4 : decode cX2_init 4 = .ok (.aload_n 0, 1) := by decide +kernel
theorem dX2_init_5 : decode cX2_init 5 = .ok (.bipush 10, 2) := by decide +kernel
theorem dX2_init_7 : decode cX2_init 7 = .ok (.newarray .int, 2) := by decide +kernel
theorem dX2_init_9 : decode cX2_init 9 = .ok (.putfield 9, 3) := by decide +kernel
theorem dX2_init_12 : decode cX2_init 12 = .ok (.aload_n 0, 1) := by decide +kernel
theorem dX2_init_13 : decode cX2_init 13 = .ok (.bipush 10, 2) := by decide +kernel
theorem dX2_init_15 : decode cX2_init 15 = .ok (.newarray .int, 2) := by decide +kernel
theorem dX2_init_17 : decode cX2_init 17 = .ok (.putfield 15, 3) := by decide +kernel
theorem dX2_init_20 : decode cX2_init 20 = .ok (.aload_n 0, 1) := by decide +kernel
theorem dX2_init_21 : decode cX2_init 21 = .ok (.bipush 10, 2) := by decide +kernel
theorem dX2_init_23 : decode cX2_init 23 = .ok (.newarray .int, 2) := by decide +kernel
theorem dX2_init_25 : decode cX2_init 25 = .ok (.putfield 18, 3) := by decide +kernel
theorem dX2_init_28 : decode cX2_init 28 = .ok (.aload_n 0, 1) := by decide +kernel
theorem dX2_init_29 : decode cX2_init 29 = .ok (.bipush 10, 2) := by decide +kernel
theorem dX2_init_31 : decode cX2_init 31 = .ok (.newarray .int, 2) := by decide +kernel
theorem dX2_init_33 : decode cX2_init 33 = .ok (.putfield 21, 3) := by decide +kernel
theorem dX2_init_36 : decode cX2_init 36 = .ok (.aload_n 0, 1) := by decide +kernel
theorem dX2_init_37 : decode cX2_init 37 = .ok (.iconst 0, 1) := by decide +kernel
theorem dX2_init_38 : decode cX2_init 38 = .ok (.putfield 24, 3) := by decide +kernel
theorem dX2_init_41 : decode cX2_init 41 = .ok (.aload_n 0, 1) := by decide +kernel
theorem dX2_init_42 : decode cX2_init 42 = .ok (.iconst 0, 1) := by decide +kernel
theorem dX2_init_43 : decode cX2_init 43 = .ok (.putfield 28, 3) := by decide +kernel
theorem dX2_init_46 : decode cX2_init 46 = .ok (.aload_n 0, 1) := by decide +kernel
theorem dX2_init_47 : decode cX2_init 47 = .ok (.iconst 1, 1) := by decide +kernel
theorem dX2_init_48 : decode cX2_init 48 = .ok (.putfield 31, 3) := by decide +kernel
theorem dX2_init_51 : decode cX2_init 51 = .ok (.return_, 1) := by decide +kernel
set_option maxRecDepth 20000 in
theorem ggX2_build_X7_figureAt : GoodIn wsX2_build wsX7_figureAt := goodIn_r _ [12, 13, 14, 15, 11, 16, 17, 18, 40, 41] (by decide +kernel) (by decide +kernel)
set_option maxRecDepth 20000 in
theorem gX2_build_X7_figureAt : GoodIn wsX2_build (wsV RX2 34 RX7 yX7_figureAt wsX7_figureAt) := goodIn_app (goodIn_of _ (by decide +kernel)) ggX2_build_X7_figureAt
set_option maxRecDepth 20000 in
theorem ggX2_build_X7_size : GoodIn wsX2_build wsX7_size := goodIn_r _ [22, 17, 40, 41] (by decide +kernel) (by decide +kernel)
set_option maxRecDepth 20000 in
theorem gX2_build_X7_size : GoodIn wsX2_build (wsV RX2 40 RX7 yX7_size wsX7_size) := goodIn_app (goodIn_of _ (by decide +kernel)) ggX2_build_X7_size
set_option maxRecDepth 20000 in
theorem ggX2_build_X7_byteAt : GoodIn wsX2_build wsX7_byteAt := goodIn_r _ [16, 17, 18, 40, 41] (by decide +kernel) (by decide +kernel)
set_option maxRecDepth 20000 in
theorem gX2_build_X7_byteAt : GoodIn wsX2_build (wsV RX2 44 RX7 yX7_byteAt wsX7_byteAt) := goodIn_app (goodIn_of _ (by decide +kernel)) ggX2_build_X7_byteAt
set_option maxRecDepth 20000 in
theorem ggX2_build_X7_isFilledPlace : GoodIn wsX2_build wsX7_isFilledPlace := goodIn_r _ [27, 13, 14, 15, 11, 16, 17, 18, 40, 41] (by decide +kernel) (by decide +kernel)
set_option maxRecDepth 20000 in
theorem gX2_build_X7_isFilledPlace : GoodIn wsX2_build (wsV RX2 47 RX7 yX7_isFilledPlace wsX7_isFilledPlace) := goodIn_app (goodIn_of _ (by decide +kernel)) ggX2_build_X7_isFilledPlace
set_option maxRecDepth 20000 in
theorem ggX2_build_X7_bytesOfPlace : GoodIn wsX2_build wsX7_bytesOfPlace := goodIn_r _ [31, 32, 25, 26, 11, 27, 13, 14, 15, 16, 17, 18, 40, 41] (by decide +kernel) (by decide +kernel)
set_option maxRecDepth 20000 in
theorem gX2_build_X7_bytesOfPlace : GoodIn wsX2_build (wsV RX2 51 RX7 yX7_bytesOfPlace wsX7_bytesOfPlace) := goodIn_app (goodIn_of _ (by decide +kernel)) ggX2_build_X7_bytesOfPlace
theorem dX2_build_0 : decode cX2_build 0 = .ok (.aload_n 0, 1) := by decide +kernel
theorem dX2_build_1 : decode cX2_build 1 = .ok (.aload_n 1, 1) := by decide +kernel
theorem dX2_build_2 : decode cX2_build 2 = .ok (.iconst 1, 1) := by decide +kernel
theorem dX2_build_3 : decode cX2_build 3 = .ok (.invokevirtual 34, 3) := by decide +kernel
theorem dX2_build_6 : decode cX2_build 6 = .ok (.putfield 28, 3) := by decide +kernel
theorem dX2_build_9 : decode cX2_build 9 = .ok (.aload_n 0, 1) := by decide +kernel
theorem dX2_build_10 : decode cX2_build 10 = .ok (.bipush 10, 2) := by decide +kernel
theorem dX2_build_12 : decode cX2_build 12 = .ok (.aload_n 1, 1) := by decide +kernel
theorem dX2_build_13 : decode cX2_build 13 = .ok (.iconst 2, 1) := by decide +kernel
theorem dX2_build_14 : decode cX2_build 14 = .ok (.invokevirtual 34, 3) := by decide +kernel
theorem dX2_build_17 : decode cX2_build 17 = .ok (.imul, 1) := by decide +kernel
theorem dX2_build_18 : decode cX2_build 18 = .ok (.aload_n 1, 1) := by decide +kernel
theorem dX2_build_19 : decode cX2_build 19 = .ok (.iconst 3, 1) := by decide +kernel
theorem dX2_build_20 : decode cX2_build 20 = .ok (.invokevirtual 34, 3) := by decide +kernel
theorem dX2_build_23 : decode cX2_build 23 = .ok (.iadd, 1) := by decide +kernel
theorem dX2_build_24 : decode cX2_build 24 = .ok (.putfield 31, 3) := by decide +kernel
theorem dX2_build_27 : decode cX2_build 27 = .ok (.aload_n 0, 1) := by decide +kernel
theorem dX2_build_28 : decode cX2_build 28 = .ok (.iconst 0, 1) := by decide +kernel
theorem dX2_build_29 : decode cX2_build 29 = .ok (.putfield 24, 3) := by decide +kernel
theorem dX2_build_32 : decode cX2_build 32 = .ok (.iconst 4, 1) := by decide +kernel
theorem dX2_build_33 : decode cX2_build 33 = .ok (.istore_n 2, 1) := by decide +kernel
theorem dX2_build_34 : decode cX2_build 34 = .ok (.iconst 0, 1) := by decide +kernel
theorem dX2_build_35 : decode cX2_build 35 = .ok (.istore_n 3, 1) := by decide +kernel
theorem dX2_build_36 : decode cX2_build 36 = .ok (.iload_n 3, 1) := by decide +kernel
theorem dX2_build_37 : decode cX2_build 37 = .ok (.bipush 10, 2) := by decide +kernel
theorem dX2_build_39 : decode cX2_build 39 = .ok (.if_icmp .ge 114, 3) := by decide +kernel
theorem dX2_build_42 : decode cX2_build 42 = .ok (.iload_n 2, 1) := by decide +kernel
theorem dX2_build_43 : decode cX2_build 43 = .ok (.aload_n 1, 1) := by decide +kernel
theorem dX2_build_44 : decode cX2_build 44 = .ok (.invokevirtual 40, 3) := by decide +kernel
theorem dX2_build_47 : decode cX2_build 47 = .ok (.if_icmp .ge 106, 3) := by decide +kernel
theorem dX2_build_50 : decode cX2_build 50 = .ok (.aload_n 0, 1) := by decide +kernel
theorem dX2_build_51 : decode cX2_build 51 = .ok (.getfield 9, 3) := by decide +kernel
theorem dX2_build_54 : decode cX2_build 54 = .ok (.iload_n 3, 1) := by decide +kernel
theorem dX2_build_55 : decode cX2_build 55 = .ok (.aload_n 1, 1) := by decide +kernel
theorem dX2_build_56 : decode cX2_build 56 = .ok (.iload_n 2, 1) := by decide +kernel
theorem dX2_build_57 : decode cX2_build 57 = .ok (.iconst 1, 1) := by decide +kernel
theorem dX2_build_58 : decode cX2_build 58 = .ok (.iadd, 1) := by decide +kernel
theorem dX2_build_59 : decode cX2_build 59 = .ok (.invokevirtual 34, 3) := by decide +kernel
theorem dX2_build_62 : decode cX2_build 62 = .ok (.iastore, 1) := by decide +kernel
theorem dX2_build_63 : decode cX2_build 63 = .ok (.aload_n 0, 1) := by decide +kernel
theorem dX2_build_64 : decode cX2_build 64 = .ok (.getfield 15, 3) := by decide +kernel
theorem dX2_build_67 : decode cX2_build 67 = .ok (.iload_n 3, 1) := by decide +kernel
theorem dX2_build_68 : decode cX2_build 68 = .ok (.aload_n 1, 1) := by decide +kernel
theorem dX2_build_69 : decode cX2_build 69 = .ok (.iload_n 2, 1) := by decide +kernel
theorem dX2_build_70 : decode cX2_build 70 = .ok (.iconst 2, 1) := by decide +kernel
theorem dX2_build_71 : decode cX2_build 71 = .ok (.iadd, 1) := by decide +kernel
theorem dX2_build_72 : decode cX2_build 72 = .ok (.invokevirtual 34, 3) := by decide +kernel
theorem dX2_build_75 : decode cX2_build 75 = .ok (.iastore, 1) := by decide +kernel
theorem dX2_build_76 : decode cX2_build 76 = .ok (.aload_n 0, 1) := by decide +kernel
theorem dX2_build_77 : decode cX2_build 77 = .ok (.getfield 18, 3) := by decide +kernel
theorem dX2_build_80 : decode cX2_build 80 = .ok (.iload_n 3, 1) := by decide +kernel
theorem dX2_build_81 : decode cX2_build 81 = .ok (.aload_n 1, 1) := by decide +kernel
theorem dX2_build_82 : decode cX2_build 82 = .ok (.iload_n 2, 1) := by decide +kernel
theorem dX2_build_83 : decode cX2_build 83 = .ok (.iconst 3, 1) := by decide +kernel
theorem dX2_build_84 : decode cX2_build 84 = .ok (.iadd, 1) := by decide +kernel
theorem dX2_build_85 : decode cX2_build 85 = .ok (.invokevirtual 44, 3) := by decide +kernel
theorem dX2_build_88 : decode cX2_build 88 = .ok (.bipush 45, 2) := by decide +kernel
theorem dX2_build_90 : decode cX2_build 90 = .ok (.if_icmp .ne 8, 3) := by decide +kernel
theorem dX2_build_93 : decode cX2_build 93 = .ok (.bipush (-9), 2) := by decide +kernel
theorem dX2_build_95 : decode cX2_build 95 = .ok (.goto 10, 3) := by decide +kernel
theorem dX2_build_98 : decode cX2_build 98 = .ok (.aload_n 1, 1) := by decide +kernel
theorem dX2_build_99 : decode cX2_build 99 = .ok (.iload_n 2, 1) := by decide +kernel
theorem dX2_build_100 : decode cX2_build 100 = .ok (.iconst 3, 1) := by decide +kernel
theorem dX2_build_101 : decode cX2_build 101 = .ok (.iadd, 1) := by decide +kernel
theorem dX2_build_102 : decode cX2_build 102 = .ok (.invokevirtual 34, 3) := by decide +kernel
theorem dX2_build_105 : decode cX2_build 105 = .ok (.iastore, 1) := by decide +kernel
theorem dX2_build_106 : decode cX2_build 106 = .ok (.aload_n 0, 1) := by decide +kernel
theorem dX2_build_107 : decode cX2_build 107 = .ok (.getfield 21, 3) := by decide +kernel
theorem dX2_build_110 : decode cX2_build 110 = .ok (.iload_n 3, 1) := by decide +kernel
theorem dX2_build_111 : decode cX2_build 111 = .ok (.aload_n 1, 1) := by decide +kernel
theorem dX2_build_112 : decode cX2_build 112 = .ok (.iload_n 2, 1) := by decide +kernel
theorem dX2_build_113 : decode cX2_build 113 = .ok (.invokevirtual 47, 3) := by decide +kernel
theorem dX2_build_116 : decode cX2_build 116 = .ok (.ifCond .eq 13, 3) := by decide +kernel
theorem dX2_build_119 : decode cX2_build 119 = .ok (.aload_n 1, 1) := by decide +kernel
theorem dX2_build_120 : decode cX2_build 120 = .ok (.iload_n 2, 1) := by decide +kernel
theorem dX2_build_121 : decode cX2_build 121 = .ok (.iconst 4, 1) := by decide +kernel
theorem dX2_build_122 : decode cX2_build 122 = .ok (.iadd, 1) := by decide +kernel
theorem dX2_build_123 : decode cX2_build 123 = .ok (.invokevirtual 34, 3) := by decide +kernel
theorem dX2_build_126 : decode cX2_build 126 = .ok (.goto 5, 3) := by decide +kernel
theorem dX2_build_129 : decode cX2_build 129 = .ok (.bipush (-9), 2) := by decide +kernel
theorem dX2_build_131 : decode cX2_build 131 = .ok (.iastore, 1) := by decide +kernel
theorem dX2_build_132 : decode cX2_build 132 = .ok (.aload_n 0, 1) := by decide +kernel
theorem dX2_build_133 : decode cX2_build 133 = .ok (.iload_n 3, 1) := by decide +kernel
theorem dX2_build_134 : decode cX2_build 134 = .ok (.iconst 1, 1) := by decide +kernel
theorem dX2_build_135 : decode cX2_build 135 = .ok (.iadd, 1) := by decide +kernel
theorem dX2_build_136 : decode cX2_build 136 = .ok (.putfield 24, 3) := by decide +kernel
theorem dX2_build_139 : decode cX2_build 139 = .ok (.iload_n 2, 1) := by decide +kernel
theorem dX2_build_140 : decode cX2_build 140 = .ok (.aload_n 1, 1) := by decide +kernel
theorem dX2_build_141 : decode cX2_build 141 = .ok (.iload_n 2, 1) := by decide +kernel
theorem dX2_build_142 : decode cX2_build 142 = .ok (.invokevirtual 51, 3) := by decide +kernel
theorem dX2_build_145 : decode cX2_build 145 = .ok (.iadd, 1) := by decide +kernel
theorem dX2_build_146 : decode cX2_build 146 = .ok (.istore_n 2, 1) := by decide +kernel
theorem dX2_build_147 : decode cX2_build 147 = .ok (.iinc 3 1, 3) := by decide +kernel
theorem dX2_build_150 : decode cX2_build 150 = .ok (.goto (-114), 3) := by decide +kernel
theorem dX2_build_153 : decode cX2_build 153 = .ok (.return_, 1) := by decide +kernel
theorem dX2_places_0 : decode cX2_places 0 = .ok (.aload_n 0, 1) := by decide +kernel
theorem dX2_places_1 : decode cX2_places 1 = .ok (.getfield 24, 3) := by decide +kernel
theorem dX2_places_4 : decode cX2_places 4 = .ok (.ireturn, 1) := by decide +kernel
theorem dX2_pumps_0 : decode cX2_pumps 0 = .ok (.aload_n 0, 1) := by decide +kernel
theorem dX2_pumps_1 : decode cX2_pumps 1 = .ok (.getfield 28, 3) := by decide +kernel
theorem dX2_pumps_4 : decode cX2_pumps 4 = .ok (.ireturn, 1) := by decide +kernel
theorem dX2_hold_0 : decode cX2_hold 0 = .ok (.aload_n 0, 1) := by decide +kernel
theorem dX2_hold_1 : decode cX2_hold 1 = .ok (.getfield 31, 3) := by decide +kernel
theorem dX2_hold_4 : decode cX2_hold 4 = .ok (.ireturn, 1) := by decide +kernel
theorem dX2_isPlace_0 : decode cX2_isPlace 0 = .ok (.iload_n 1, 1) := by decide +kernel
theorem dX2_isPlace_1 : decode cX2_isPlace 1 = .ok (.ifCond .lt 21, 3) := by decide +kernel
theorem dX2_isPlace_4 : decode cX2_isPlace 4 = .ok (.iload_n 1, 1) := by decide +kernel
theorem dX2_isPlace_5 : decode cX2_isPlace 5 = .ok (.aload_n 0, 1) := by decide +kernel
theorem dX2_isPlace_6 : decode cX2_isPlace 6 = .ok (.getfield 24, 3) := by decide +kernel
theorem dX2_isPlace_9 : decode cX2_isPlace 9 = .ok (.if_icmp .ge 13, 3) := by decide +kernel
theorem dX2_isPlace_12 : decode cX2_isPlace 12 = .ok (.iload_n 1, 1) := by decide +kernel
theorem dX2_isPlace_13 : decode cX2_isPlace 13 = .ok (.bipush 10, 2) := by decide +kernel
theorem dX2_isPlace_15 : decode cX2_isPlace 15 = .ok (.if_icmp .ge 7, 3) := by decide +kernel
theorem dX2_isPlace_18 : decode cX2_isPlace 18 = .ok (.iconst 1, 1) := by decide +kernel
theorem dX2_isPlace_19 : decode cX2_isPlace 19 = .ok (.goto 4, 3) := by decide +kernel
theorem dX2_isPlace_22 : decode cX2_isPlace 22 = .ok (.iconst 0, 1) := by decide +kernel
theorem dX2_isPlace_23 : decode cX2_isPlace 23 = .ok (.ireturn, 1) := by decide +kernel
theorem dX2_lengthOf_0 : decode cX2_lengthOf 0 = .ok (.iload_n 1, 1) := by decide +kernel
theorem dX2_lengthOf_1 : decode cX2_lengthOf 1 = .ok (.ifCond .lt 29, 3) := by decide +kernel
theorem dX2_lengthOf_4 : decode cX2_lengthOf 4 = .ok (.iload_n 1, 1) := by decide +kernel
theorem dX2_lengthOf_5 : decode cX2_lengthOf 5 = .ok (.aload_n 0, 1) := by decide +kernel
theorem dX2_lengthOf_6 : decode cX2_lengthOf 6 = .ok (.getfield 24, 3) := by decide +kernel
theorem dX2_lengthOf_9 : decode cX2_lengthOf 9 = .ok (.if_icmp .ge 21, 3) := by decide +kernel
theorem dX2_lengthOf_12 : decode cX2_lengthOf 12 = .ok (.iload_n 1, 1) := by decide +kernel
theorem dX2_lengthOf_13 : decode cX2_lengthOf 13 = .ok (.aload_n 0, 1) := by decide +kernel
theorem dX2_lengthOf_14 : decode cX2_lengthOf 14 = .ok (.getfield 9, 3) := by decide +kernel
theorem dX2_lengthOf_17 : decode cX2_lengthOf 17 = .ok (.arraylength, 1) := by decide +kernel
theorem dX2_lengthOf_18 : decode cX2_lengthOf 18 = .ok (.if_icmp .ge 12, 3) := by decide +kernel
theorem dX2_lengthOf_21 : decode cX2_lengthOf 21 = .ok (.aload_n 0, 1) := by decide +kernel
theorem dX2_lengthOf_22 : decode cX2_lengthOf 22 = .ok (.getfield 9, 3) := by decide +kernel
theorem dX2_lengthOf_25 : decode cX2_lengthOf 25 = .ok (.iload_n 1, 1) := by decide +kernel
theorem dX2_lengthOf_26 : decode cX2_lengthOf 26 = .ok (.iaload, 1) := by decide +kernel
theorem dX2_lengthOf_27 : decode cX2_lengthOf 27 = .ok (.goto 4, 3) := by decide +kernel
theorem dX2_lengthOf_30 : decode cX2_lengthOf 30 = .ok (.iconst 0, 1) := by decide +kernel
theorem dX2_lengthOf_31 : decode cX2_lengthOf 31 = .ok (.ireturn, 1) := by decide +kernel
theorem dX2_letsIn_0 : decode cX2_letsIn 0 = .ok (.iload_n 1, 1) := by decide +kernel
theorem dX2_letsIn_1 : decode cX2_letsIn 1 = .ok (.ifCond .lt 29, 3) := by decide +kernel
theorem dX2_letsIn_4 : decode cX2_letsIn 4 = .ok (.iload_n 1, 1) := by decide +kernel
theorem dX2_letsIn_5 : decode cX2_letsIn 5 = .ok (.aload_n 0, 1) := by decide +kernel
theorem dX2_letsIn_6 : decode cX2_letsIn 6 = .ok (.getfield 24, 3) := by decide +kernel
theorem dX2_letsIn_9 : decode cX2_letsIn 9 = .ok (.if_icmp .ge 21, 3) := by decide +kernel
theorem dX2_letsIn_12 : decode cX2_letsIn 12 = .ok (.iload_n 1, 1) := by decide +kernel
theorem dX2_letsIn_13 : decode cX2_letsIn 13 = .ok (.aload_n 0, 1) := by decide +kernel
theorem dX2_letsIn_14 : decode cX2_letsIn 14 = .ok (.getfield 15, 3) := by decide +kernel
theorem dX2_letsIn_17 : decode cX2_letsIn 17 = .ok (.arraylength, 1) := by decide +kernel
theorem dX2_letsIn_18 : decode cX2_letsIn 18 = .ok (.if_icmp .ge 12, 3) := by decide +kernel
theorem dX2_letsIn_21 : decode cX2_letsIn 21 = .ok (.aload_n 0, 1) := by decide +kernel
theorem dX2_letsIn_22 : decode cX2_letsIn 22 = .ok (.getfield 15, 3) := by decide +kernel
theorem dX2_letsIn_25 : decode cX2_letsIn 25 = .ok (.iload_n 1, 1) := by decide +kernel
theorem dX2_letsIn_26 : decode cX2_letsIn 26 = .ok (.iaload, 1) := by decide +kernel
theorem dX2_letsIn_27 : decode cX2_letsIn 27 = .ok (.goto 4, 3) := by decide +kernel
theorem dX2_letsIn_30 : decode cX2_letsIn 30 = .ok (.iconst 0, 1) := by decide +kernel
theorem dX2_letsIn_31 : decode cX2_letsIn 31 = .ok (.ireturn, 1) := by decide +kernel
theorem dX2_restsOn_0 : decode cX2_restsOn 0 = .ok (.iload_n 1, 1) := by decide +kernel
theorem dX2_restsOn_1 : decode cX2_restsOn 1 = .ok (.ifCond .lt 29, 3) := by decide +kernel
theorem dX2_restsOn_4 : decode cX2_restsOn 4 = .ok (.iload_n 1, 1) := by decide +kernel
theorem dX2_restsOn_5 : decode cX2_restsOn 5 = .ok (.aload_n 0, 1) := by decide +kernel
theorem dX2_restsOn_6 : decode cX2_restsOn 6 = .ok (.getfield 24, 3) := by decide +kernel
theorem dX2_restsOn_9 : decode cX2_restsOn 9 = .ok (.if_icmp .ge 21, 3) := by decide +kernel
theorem dX2_restsOn_12 : decode cX2_restsOn 12 = .ok (.iload_n 1, 1) := by decide +kernel
theorem dX2_restsOn_13 : decode cX2_restsOn 13 = .ok (.aload_n 0, 1) := by decide +kernel
theorem dX2_restsOn_14 : decode cX2_restsOn 14 = .ok (.getfield 18, 3) := by decide +kernel
theorem dX2_restsOn_17 : decode cX2_restsOn 17 = .ok (.arraylength, 1) := by decide +kernel
theorem dX2_restsOn_18 : decode cX2_restsOn 18 = .ok (.if_icmp .ge 12, 3) := by decide +kernel
theorem dX2_restsOn_21 : decode cX2_restsOn 21 = .ok (.aload_n 0, 1) := by decide +kernel
theorem dX2_restsOn_22 : decode cX2_restsOn 22 = .ok (.getfield 18, 3) := by decide +kernel
theorem dX2_restsOn_25 : decode cX2_restsOn 25 = .ok (.iload_n 1, 1) := by decide +kernel
theorem dX2_restsOn_26 : decode cX2_restsOn 26 = .ok (.iaload, 1) := by decide +kernel
theorem dX2_restsOn_27 : decode cX2_restsOn 27 = .ok (.goto 5, 3) := by decide +kernel
theorem dX2_restsOn_30 : decode cX2_restsOn 30 = .ok (.bipush (-9), 2) := by decide +kernel
theorem dX2_restsOn_32 : decode cX2_restsOn 32 = .ok (.ireturn, 1) := by decide +kernel
theorem dX2_shipOf_0 : decode cX2_shipOf 0 = .ok (.iload_n 1, 1) := by decide +kernel
theorem dX2_shipOf_1 : decode cX2_shipOf 1 = .ok (.ifCond .lt 29, 3) := by decide +kernel
theorem dX2_shipOf_4 : decode cX2_shipOf 4 = .ok (.iload_n 1, 1) := by decide +kernel
theorem dX2_shipOf_5 : decode cX2_shipOf 5 = .ok (.aload_n 0, 1) := by decide +kernel
theorem dX2_shipOf_6 : decode cX2_shipOf 6 = .ok (.getfield 24, 3) := by decide +kernel
theorem dX2_shipOf_9 : decode cX2_shipOf 9 = .ok (.if_icmp .ge 21, 3) := by decide +kernel
theorem dX2_shipOf_12 : decode cX2_shipOf 12 = .ok (.iload_n 1, 1) := by decide +kernel
theorem dX2_shipOf_13 : decode cX2_shipOf 13 = .ok (.aload_n 0, 1) := by decide +kernel
theorem dX2_shipOf_14 : decode cX2_shipOf 14 = .ok (.getfield 21, 3) := by decide +kernel
theorem dX2_shipOf_17 : decode cX2_shipOf 17 = .ok (.arraylength, 1) := by decide +kernel
theorem dX2_shipOf_18 : decode cX2_shipOf 18 = .ok (.if_icmp .ge 12, 3) := by decide +kernel
theorem dX2_shipOf_21 : decode cX2_shipOf 21 = .ok (.aload_n 0, 1) := by decide +kernel
theorem dX2_shipOf_22 : decode cX2_shipOf 22 = .ok (.getfield 21, 3) := by decide +kernel
theorem dX2_shipOf_25 : decode cX2_shipOf 25 = .ok (.iload_n 1, 1) := by decide +kernel
theorem dX2_shipOf_26 : decode cX2_shipOf 26 = .ok (.iaload, 1) := by decide +kernel
theorem dX2_shipOf_27 : decode cX2_shipOf 27 = .ok (.goto 5, 3) := by decide +kernel
theorem dX2_shipOf_30 : decode cX2_shipOf 30 = .ok (.bipush (-9), 2) := by decide +kernel
theorem dX2_shipOf_32 : decode cX2_shipOf 32 = .ok (.ireturn, 1) := by decide +kernel
set_option maxRecDepth 20000 in
theorem ggX2_leakOf_X3_isOpen : GoodIn wsX2_leakOf wsX3_isOpen := goodIn_r _ [6, 7, 21, 22, 23, 24, 25, 26] (by decide +kernel) (by decide +kernel)
set_option maxRecDepth 20000 in
theorem gX2_leakOf_X3_isOpen : GoodIn wsX2_leakOf (wsV RX2 54 RX3 yX3_isOpen wsX3_isOpen) := goodIn_app (goodIn_of _ (by decide +kernel)) ggX2_leakOf_X3_isOpen
set_option maxRecDepth 20000 in
theorem ggX2_leakOf_X2_letsIn : GoodIn wsX2_leakOf wsX2_letsIn := goodIn_r _ [12, 1, 13, 14, 15, 16, 17, 18, 19, 20] (by decide +kernel) (by decide +kernel)
set_option maxRecDepth 20000 in
theorem gX2_leakOf_X2_letsIn : GoodIn wsX2_leakOf (wsV RX2 59 RX2 yX2_letsIn wsX2_letsIn) := goodIn_app (goodIn_of _ (by decide +kernel)) ggX2_leakOf_X2_letsIn
theorem dX2_leakOf_0 : decode cX2_leakOf 0 = .ok (.iconst 0, 1) := by decide +kernel
theorem dX2_leakOf_1 : decode cX2_leakOf 1 = .ok (.istore_n 2, 1) := by decide +kernel
theorem dX2_leakOf_2 : decode cX2_leakOf 2 = .ok (.iconst 0, 1) := by decide +kernel
theorem dX2_leakOf_3 : decode cX2_leakOf 3 = .ok (.istore_n 3, 1) := by decide +kernel
theorem dX2_leakOf_4 : decode cX2_leakOf 4 = .ok (.iload_n 3, 1) := by decide +kernel
theorem dX2_leakOf_5 : decode cX2_leakOf 5 = .ok (.aload_n 0, 1) := by decide +kernel
theorem dX2_leakOf_6 : decode cX2_leakOf 6 = .ok (.getfield 24, 3) := by decide +kernel
theorem dX2_leakOf_9 : decode cX2_leakOf 9 = .ok (.if_icmp .ge 29, 3) := by decide +kernel
theorem dX2_leakOf_12 : decode cX2_leakOf 12 = .ok (.iload_n 2, 1) := by decide +kernel
theorem dX2_leakOf_13 : decode cX2_leakOf 13 = .ok (.aload_n 1, 1) := by decide +kernel
theorem dX2_leakOf_14 : decode cX2_leakOf 14 = .ok (.iload_n 3, 1) := by decide +kernel
theorem dX2_leakOf_15 : decode cX2_leakOf 15 = .ok (.invokevirtual 54, 3) := by decide +kernel
theorem dX2_leakOf_18 : decode cX2_leakOf 18 = .ok (.ifCond .eq 11, 3) := by decide +kernel
theorem dX2_leakOf_21 : decode cX2_leakOf 21 = .ok (.aload_n 0, 1) := by decide +kernel
theorem dX2_leakOf_22 : decode cX2_leakOf 22 = .ok (.iload_n 3, 1) := by decide +kernel
theorem dX2_leakOf_23 : decode cX2_leakOf 23 = .ok (.invokevirtual 59, 3) := by decide +kernel
theorem dX2_leakOf_26 : decode cX2_leakOf 26 = .ok (.goto 4, 3) := by decide +kernel
theorem dX2_leakOf_29 : decode cX2_leakOf 29 = .ok (.iconst 0, 1) := by decide +kernel
theorem dX2_leakOf_30 : decode cX2_leakOf 30 = .ok (.iadd, 1) := by decide +kernel
theorem dX2_leakOf_31 : decode cX2_leakOf 31 = .ok (.istore_n 2, 1) := by decide +kernel
theorem dX2_leakOf_32 : decode cX2_leakOf 32 = .ok (.iinc 3 1, 3) := by decide +kernel
theorem dX2_leakOf_35 : decode cX2_leakOf 35 = .ok (.goto (-31), 3) := by decide +kernel
theorem dX2_leakOf_38 : decode cX2_leakOf 38 = .ok (.iload_n 2, 1) := by decide +kernel
theorem dX2_leakOf_39 : decode cX2_leakOf 39 = .ok (.ireturn, 1) := by decide +kernel
set_option maxRecDepth 20000 in
theorem ggX2_openPlaces_X3_isOpen : GoodIn wsX2_openPlaces wsX3_isOpen := goodIn_r _ [6, 7, 15, 16, 17, 18, 19, 20] (by decide +kernel) (by decide +kernel)
set_option maxRecDepth 20000 in
theorem gX2_openPlaces_X3_isOpen : GoodIn wsX2_openPlaces (wsV RX2 54 RX3 yX3_isOpen wsX3_isOpen) := goodIn_app (goodIn_of _ (by decide +kernel)) ggX2_openPlaces_X3_isOpen
theorem dX2_openPlaces_0 : decode cX2_openPlaces 0 = .ok (.iconst 0, 1) := by decide +kernel
theorem dX2_openPlaces_1 : decode cX2_openPlaces 1 = .ok (.istore_n 2, 1) := by decide +kernel
theorem dX2_openPlaces_2 : decode cX2_openPlaces 2 = .ok (.iconst 0, 1) := by decide +kernel
theorem dX2_openPlaces_3 : decode cX2_openPlaces 3 = .ok (.istore_n 3, 1) := by decide +kernel
theorem dX2_openPlaces_4 : decode cX2_openPlaces 4 = .ok (.iload_n 3, 1) := by decide +kernel
theorem dX2_openPlaces_5 : decode cX2_openPlaces 5 = .ok (.aload_n 0, 1) := by decide +kernel
theorem dX2_openPlaces_6 : decode cX2_openPlaces 6 = .ok (.getfield 24, 3) := by decide +kernel
theorem dX2_openPlaces_9 : decode cX2_openPlaces 9 = .ok (.if_icmp .ge 27, 3) := by decide +kernel
theorem dX2_openPlaces_12 : decode cX2_openPlaces 12 = .ok (.iload_n 2, 1) := by decide +kernel
theorem dX2_openPlaces_13 : decode cX2_openPlaces 13 = .ok (.aload_n 1, 1) := by decide +kernel
theorem dX2_openPlaces_14 : decode cX2_openPlaces 14 = .ok (.iload_n 3, 1) := by decide +kernel
theorem dX2_openPlaces_15 : decode cX2_openPlaces 15 = .ok (.invokevirtual 54, 3) := by decide +kernel
theorem dX2_openPlaces_18 : decode cX2_openPlaces 18 = .ok (.ifCond .eq 9, 3) := by decide +kernel
theorem dX2_openPlaces_21 : decode cX2_openPlaces 21 = .ok (.iconst 1, 1) := by decide +kernel
theorem dX2_openPlaces_22 : decode cX2_openPlaces 22 = .ok (.iload_n 3, 1) := by decide +kernel
theorem dX2_openPlaces_23 : decode cX2_openPlaces 23 = .ok (.ishl, 1) := by decide +kernel
theorem dX2_openPlaces_24 : decode cX2_openPlaces 24 = .ok (.goto 4, 3) := by decide +kernel
theorem dX2_openPlaces_27 : decode cX2_openPlaces 27 = .ok (.iconst 0, 1) := by decide +kernel
theorem dX2_openPlaces_28 : decode cX2_openPlaces 28 = .ok (.ior, 1) := by decide +kernel
theorem dX2_openPlaces_29 : decode cX2_openPlaces 29 = .ok (.istore_n 2, 1) := by decide +kernel
theorem dX2_openPlaces_30 : decode cX2_openPlaces 30 = .ok (.iinc 3 1, 3) := by decide +kernel
theorem dX2_openPlaces_33 : decode cX2_openPlaces 33 = .ok (.goto (-29), 3) := by decide +kernel
theorem dX2_openPlaces_36 : decode cX2_openPlaces 36 = .ok (.iload_n 2, 1) := by decide +kernel
theorem dX2_openPlaces_37 : decode cX2_openPlaces 37 = .ok (.ireturn, 1) := by decide +kernel
set_option maxRecDepth 20000 in
theorem ggX2_mayBeTakenFrom_X3_isOpen : GoodIn wsX2_mayBeTakenFrom wsX3_isOpen := goodIn_r _ [6, 7, 21, 22, 23, 24, 25, 26] (by decide +kernel) (by decide +kernel)
set_option maxRecDepth 20000 in
theorem gX2_mayBeTakenFrom_X3_isOpen : GoodIn wsX2_mayBeTakenFrom (wsV RX2 54 RX3 yX3_isOpen wsX3_isOpen) := goodIn_app (goodIn_of _ (by decide +kernel)) ggX2_mayBeTakenFrom_X3_isOpen
set_option maxRecDepth 20000 in
theorem ggX2_mayBeTakenFrom_X2_restsOn : GoodIn wsX2_mayBeTakenFrom wsX2_restsOn := goodIn_r _ [12, 1, 13, 14, 15, 16, 17, 18, 19, 20] (by decide +kernel) (by decide +kernel)
set_option maxRecDepth 20000 in
theorem gX2_mayBeTakenFrom_X2_restsOn : GoodIn wsX2_mayBeTakenFrom (wsV RX2 61 RX2 yX2_restsOn wsX2_restsOn) := goodIn_app (goodIn_of _ (by decide +kernel)) ggX2_mayBeTakenFrom_X2_restsOn
theorem dX2_mayBeTakenFrom_0 : decode cX2_mayBeTakenFrom 0 = .ok (.aload_n 2, 1) := by decide +kernel
theorem dX2_mayBeTakenFrom_1 : decode cX2_mayBeTakenFrom 1 = .ok (.iload_n 1, 1) := by decide +kernel
theorem dX2_mayBeTakenFrom_2 : decode cX2_mayBeTakenFrom 2 = .ok (.invokevirtual 54, 3) := by decide +kernel
theorem dX2_mayBeTakenFrom_5 : decode cX2_mayBeTakenFrom 5 = .ok (.ifCond .eq 5, 3) := by decide +kernel
theorem dX2_mayBeTakenFrom_8 : decode cX2_mayBeTakenFrom 8 = .ok (.iconst 0, 1) := by decide +kernel
theorem dX2_mayBeTakenFrom_9 : decode cX2_mayBeTakenFrom 9 = .ok (.ireturn, 1) := by decide +kernel
theorem dX2_mayBeTakenFrom_10 : decode cX2_mayBeTakenFrom 10 = .ok (.iconst 0, 1) := by decide +kernel
theorem dX2_mayBeTakenFrom_11 : decode cX2_mayBeTakenFrom 11 = .ok (.istore_n 3, 1) := by decide +kernel
theorem dX2_mayBeTakenFrom_12 : decode cX2_mayBeTakenFrom 12 = .ok (.iload_n 3, 1) := by decide +kernel
theorem dX2_mayBeTakenFrom_13 : decode cX2_mayBeTakenFrom 13 = .ok (.aload_n 0, 1) := by decide +kernel
theorem dX2_mayBeTakenFrom_14 : decode cX2_mayBeTakenFrom 14 = .ok (.getfield 24, 3) := by decide +kernel
theorem dX2_mayBeTakenFrom_17 : decode cX2_mayBeTakenFrom 17 = .ok (.if_icmp .ge 28, 3) := by decide +kernel
theorem dX2_mayBeTakenFrom_20 : decode cX2_mayBeTakenFrom 20 = .ok (.aload_n 0, 1) := by decide +kernel
theorem dX2_mayBeTakenFrom_21 : decode cX2_mayBeTakenFrom 21 = .ok (.iload_n 3, 1) := by decide +kernel
theorem dX2_mayBeTakenFrom_22 : decode cX2_mayBeTakenFrom 22 = .ok (.invokevirtual 61, 3) := by decide +kernel
theorem dX2_mayBeTakenFrom_25 : decode cX2_mayBeTakenFrom 25 = .ok (.iload_n 1, 1) := by decide +kernel
theorem dX2_mayBeTakenFrom_26 : decode cX2_mayBeTakenFrom 26 = .ok (.if_icmp .ne 13, 3) := by decide +kernel
theorem dX2_mayBeTakenFrom_29 : decode cX2_mayBeTakenFrom 29 = .ok (.aload_n 2, 1) := by decide +kernel
theorem dX2_mayBeTakenFrom_30 : decode cX2_mayBeTakenFrom 30 = .ok (.iload_n 3, 1) := by decide +kernel
theorem dX2_mayBeTakenFrom_31 : decode cX2_mayBeTakenFrom 31 = .ok (.invokevirtual 54, 3) := by decide +kernel
theorem dX2_mayBeTakenFrom_34 : decode cX2_mayBeTakenFrom 34 = .ok (.ifCond .ne 5, 3) := by decide +kernel
theorem dX2_mayBeTakenFrom_37 : decode cX2_mayBeTakenFrom 37 = .ok (.iconst 0, 1) := by decide +kernel
theorem dX2_mayBeTakenFrom_38 : decode cX2_mayBeTakenFrom 38 = .ok (.ireturn, 1) := by decide +kernel
theorem dX2_mayBeTakenFrom_39 : decode cX2_mayBeTakenFrom 39 = .ok (.iinc 3 1, 3) := by decide +kernel
theorem dX2_mayBeTakenFrom_42 : decode cX2_mayBeTakenFrom 42 = .ok (.goto (-30), 3) := by decide +kernel
theorem dX2_mayBeTakenFrom_45 : decode cX2_mayBeTakenFrom 45 = .ok (.iconst 1, 1) := by decide +kernel
theorem dX2_mayBeTakenFrom_46 : decode cX2_mayBeTakenFrom 46 = .ok (.ireturn, 1) := by decide +kernel
set_option maxRecDepth 20000 in
theorem ggX2_fits_X2_restsOn : GoodIn wsX2_fits wsX2_restsOn := goodIn_r _ [5, 6, 7, 28, 29, 30, 31, 32, 33, 34] (by decide +kernel) (by decide +kernel)
set_option maxRecDepth 20000 in
theorem gX2_fits_X2_restsOn : GoodIn wsX2_fits (wsV RX2 61 RX2 yX2_restsOn wsX2_restsOn) := goodIn_app (goodIn_of _ (by decide +kernel)) ggX2_fits_X2_restsOn
set_option maxRecDepth 20000 in
theorem ggX2_fits_X2_isPlace : GoodIn wsX2_fits wsX2_isPlace := goodIn_r _ [11, 6, 28, 29, 30, 31, 32, 33, 34] (by decide +kernel) (by decide +kernel)
set_option maxRecDepth 20000 in
theorem gX2_fits_X2_isPlace : GoodIn wsX2_fits (wsV RX2 63 RX2 yX2_isPlace wsX2_isPlace) := goodIn_app (goodIn_of _ (by decide +kernel)) ggX2_fits_X2_isPlace
set_option maxRecDepth 20000 in
theorem ggX2_fits_X3_isOpen : GoodIn wsX2_fits wsX3_isOpen := goodIn_r _ [16, 17, 35, 36, 37, 38, 39, 40] (by decide +kernel) (by decide +kernel)
set_option maxRecDepth 20000 in
theorem gX2_fits_X3_isOpen : GoodIn wsX2_fits (wsV RX2 54 RX3 yX3_isOpen wsX3_isOpen) := goodIn_app (goodIn_of _ (by decide +kernel)) ggX2_fits_X3_isOpen
set_option maxRecDepth 20000 in
theorem ggX2_fits_X3_lengthOf : GoodIn wsX2_fits wsX3_lengthOf := goodIn_r _ [21, 22, 35, 36, 37, 38, 39, 40] (by decide +kernel) (by decide +kernel)
set_option maxRecDepth 20000 in
theorem gX2_fits_X3_lengthOf : GoodIn wsX2_fits (wsV RX2 66 RX3 yX3_lengthOf wsX3_lengthOf) := goodIn_app (goodIn_of _ (by decide +kernel)) ggX2_fits_X3_lengthOf
set_option maxRecDepth 20000 in
theorem ggX2_fits_X2_lengthOf : GoodIn wsX2_fits wsX2_lengthOf := goodIn_r _ [26, 6, 27, 28, 29, 30, 31, 32, 33, 34] (by decide +kernel) (by decide +kernel)
set_option maxRecDepth 20000 in
theorem gX2_fits_X2_lengthOf : GoodIn wsX2_fits (wsV RX2 69 RX2 yX2_lengthOf wsX2_lengthOf) := goodIn_app (goodIn_of _ (by decide +kernel)) ggX2_fits_X2_lengthOf
theorem dX2_fits_0 : decode cX2_fits 0 = .ok (.aload_n 0, 1) := by decide +kernel
theorem dX2_fits_1 : decode cX2_fits 1 = .ok (.iload_n 2, 1) := by decide +kernel
theorem dX2_fits_2 : decode cX2_fits 2 = .ok (.invokevirtual 61, 3) := by decide +kernel
theorem dX2_fits_5 : decode cX2_fits 5 = .ok (.istore 4, 2) := by decide +kernel
theorem dX2_fits_7 : decode cX2_fits 7 = .ok (.aload_n 0, 1) := by decide +kernel
theorem dX2_fits_8 : decode cX2_fits 8 = .ok (.iload_n 2, 1) := by decide +kernel
theorem dX2_fits_9 : decode cX2_fits 9 = .ok (.invokevirtual 63, 3) := by decide +kernel
theorem dX2_fits_12 : decode cX2_fits 12 = .ok (.ifCond .eq 44, 3) := by decide +kernel
theorem dX2_fits_15 : decode cX2_fits 15 = .ok (.aload_n 3, 1) := by decide +kernel
theorem dX2_fits_16 : decode cX2_fits 16 = .ok (.iload_n 2, 1) := by decide +kernel
theorem dX2_fits_17 : decode cX2_fits 17 = .ok (.invokevirtual 54, 3) := by decide +kernel
theorem dX2_fits_20 : decode cX2_fits 20 = .ok (.ifCond .eq 36, 3) := by decide +kernel
theorem dX2_fits_23 : decode cX2_fits 23 = .ok (.aload_n 3, 1) := by decide +kernel
theorem dX2_fits_24 : decode cX2_fits 24 = .ok (.iload_n 1, 1) := by decide +kernel
theorem dX2_fits_25 : decode cX2_fits 25 = .ok (.invokevirtual 66, 3) := by decide +kernel
theorem dX2_fits_28 : decode cX2_fits 28 = .ok (.aload_n 0, 1) := by decide +kernel
theorem dX2_fits_29 : decode cX2_fits 29 = .ok (.iload_n 2, 1) := by decide +kernel
theorem dX2_fits_30 : decode cX2_fits 30 = .ok (.invokevirtual 69, 3) := by decide +kernel
theorem dX2_fits_33 : decode cX2_fits 33 = .ok (.if_icmp .lt 23, 3) := by decide +kernel
theorem dX2_fits_36 : decode cX2_fits 36 = .ok (.iload 4, 2) := by decide +kernel
theorem dX2_fits_38 : decode cX2_fits 38 = .ok (.bipush (-9), 2) := by decide +kernel
theorem dX2_fits_40 : decode cX2_fits 40 = .ok (.if_icmp .eq 12, 3) := by decide +kernel
theorem dX2_fits_43 : decode cX2_fits 43 = .ok (.aload_n 3, 1) := by decide +kernel
theorem dX2_fits_44 : decode cX2_fits 44 = .ok (.iload 4, 2) := by decide +kernel
theorem dX2_fits_46 : decode cX2_fits 46 = .ok (.invokevirtual 54, 3) := by decide +kernel
theorem dX2_fits_49 : decode cX2_fits 49 = .ok (.ifCond .ne 7, 3) := by decide +kernel
theorem dX2_fits_52 : decode cX2_fits 52 = .ok (.iconst 1, 1) := by decide +kernel
theorem dX2_fits_53 : decode cX2_fits 53 = .ok (.goto 4, 3) := by decide +kernel
theorem dX2_fits_56 : decode cX2_fits 56 = .ok (.iconst 0, 1) := by decide +kernel
theorem dX2_fits_57 : decode cX2_fits 57 = .ok (.ireturn, 1) := by decide +kernel
set_option maxRecDepth 20000 in
theorem ggX2_mayBeMoved_X3_whereIs : GoodIn wsX2_mayBeMoved wsX3_whereIs := goodIn_r _ [5, 6, 41, 42, 43, 44, 45, 46] (by decide +kernel) (by decide +kernel)
set_option maxRecDepth 20000 in
theorem gX2_mayBeMoved_X3_whereIs : GoodIn wsX2_mayBeMoved (wsV RX2 70 RX3 yX3_whereIs wsX3_whereIs) := goodIn_app (goodIn_of _ (by decide +kernel)) ggX2_mayBeMoved_X3_whereIs
set_option maxRecDepth 20000 in
theorem ggX2_mayBeMoved_X2_fits : GoodIn wsX2_mayBeMoved wsX2_fits := goodIn_r _ [11, 12, 13, 14, 10, 15, 16, 17, 18, 19, 20, 21, 22, 23, 24, 4, 25, 26, 27, 28, 29, 30, 31, 32, 33, 34, 35, 36, 47, 48, 49, 50, 51, 52, 53, 41, 42, 43, 44, 45, 46] (by decide +kernel) (by decide +kernel)
set_option maxRecDepth 20000 in
theorem gX2_mayBeMoved_X2_fits : GoodIn wsX2_mayBeMoved (wsV RX2 73 RX2 yX2_fits wsX2_fits) := goodIn_app (goodIn_of _ (by decide +kernel)) ggX2_mayBeMoved_X2_fits
set_option maxRecDepth 20000 in
theorem ggX2_mayBeMoved_X2_isPlace : GoodIn wsX2_mayBeMoved wsX2_isPlace := goodIn_r _ [21, 16, 47, 48, 49, 50, 51, 52, 53] (by decide +kernel) (by decide +kernel)
set_option maxRecDepth 20000 in
theorem gX2_mayBeMoved_X2_isPlace : GoodIn wsX2_mayBeMoved (wsV RX2 63 RX2 yX2_isPlace wsX2_isPlace) := goodIn_app (goodIn_of _ (by decide +kernel)) ggX2_mayBeMoved_X2_isPlace
set_option maxRecDepth 20000 in
theorem ggX2_mayBeMoved_X2_mayBeTakenFrom : GoodIn wsX2_mayBeMoved wsX2_mayBeTakenFrom := goodIn_r _ [40, 16, 22, 23, 24, 4, 25, 26, 12, 13, 14, 10, 15, 17, 47, 48, 49, 50, 51, 52, 53, 41, 42, 43, 44, 45, 46] (by decide +kernel) (by decide +kernel)
set_option maxRecDepth 20000 in
theorem gX2_mayBeMoved_X2_mayBeTakenFrom : GoodIn wsX2_mayBeMoved (wsV RX2 77 RX2 yX2_mayBeTakenFrom wsX2_mayBeTakenFrom) := goodIn_app (goodIn_of _ (by decide +kernel)) ggX2_mayBeMoved_X2_mayBeTakenFrom
set_option maxRecDepth 20000 in
theorem ggX2_mayBeMoved_X2_restsOn : GoodIn wsX2_mayBeMoved wsX2_restsOn := goodIn_r _ [15, 16, 17, 47, 48, 49, 50, 51, 52, 53] (by decide +kernel) (by decide +kernel)
set_option maxRecDepth 20000 in
theorem gX2_mayBeMoved_X2_restsOn : GoodIn wsX2_mayBeMoved (wsV RX2 61 RX2 yX2_restsOn wsX2_restsOn) := goodIn_app (goodIn_of _ (by decide +kernel)) ggX2_mayBeMoved_X2_restsOn
theorem dX2_mayBeMoved_0 : decode cX2_mayBeMoved 0 = .ok (.aload_n 3, 1) := by decide +kernel
theorem dX2_mayBeMoved_1 : decode cX2_mayBeMoved 1 = .ok (.iload_n 1, 1) := by decide +kernel
theorem dX2_mayBeMoved_2 : decode cX2_mayBeMoved 2 = .ok (.invokevirtual 70, 3) := by decide +kernel
theorem dX2_mayBeMoved_5 : decode cX2_mayBeMoved 5 = .ok (.istore 4, 2) := by decide +kernel
theorem dX2_mayBeMoved_7 : decode cX2_mayBeMoved 7 = .ok (.iload 4, 2) := by decide +kernel
theorem dX2_mayBeMoved_9 : decode cX2_mayBeMoved 9 = .ok (.bipush 100, 2) := by decide +kernel
theorem dX2_mayBeMoved_11 : decode cX2_mayBeMoved 11 = .ok (.if_icmp .ne 11, 3) := by decide +kernel
theorem dX2_mayBeMoved_14 : decode cX2_mayBeMoved 14 = .ok (.aload_n 0, 1) := by decide +kernel
theorem dX2_mayBeMoved_15 : decode cX2_mayBeMoved 15 = .ok (.iload_n 1, 1) := by decide +kernel
theorem dX2_mayBeMoved_16 : decode cX2_mayBeMoved 16 = .ok (.iload_n 2, 1) := by decide +kernel
theorem dX2_mayBeMoved_17 : decode cX2_mayBeMoved 17 = .ok (.aload_n 3, 1) := by decide +kernel
theorem dX2_mayBeMoved_18 : decode cX2_mayBeMoved 18 = .ok (.invokevirtual 73, 3) := by decide +kernel
theorem dX2_mayBeMoved_21 : decode cX2_mayBeMoved 21 = .ok (.ireturn, 1) := by decide +kernel
theorem dX2_mayBeMoved_22 : decode cX2_mayBeMoved 22 = .ok (.aload_n 0, 1) := by decide +kernel
theorem dX2_mayBeMoved_23 : decode cX2_mayBeMoved 23 = .ok (.iload 4, 2) := by decide +kernel
theorem dX2_mayBeMoved_25 : decode cX2_mayBeMoved 25 = .ok (.invokevirtual 63, 3) := by decide +kernel
theorem dX2_mayBeMoved_28 : decode cX2_mayBeMoved 28 = .ok (.ifCond .eq 37, 3) := by decide +kernel
theorem dX2_mayBeMoved_31 : decode cX2_mayBeMoved 31 = .ok (.aload_n 0, 1) := by decide +kernel
theorem dX2_mayBeMoved_32 : decode cX2_mayBeMoved 32 = .ok (.iload 4, 2) := by decide +kernel
theorem dX2_mayBeMoved_34 : decode cX2_mayBeMoved 34 = .ok (.aload_n 3, 1) := by decide +kernel
theorem dX2_mayBeMoved_35 : decode cX2_mayBeMoved 35 = .ok (.invokevirtual 77, 3) := by decide +kernel
theorem dX2_mayBeMoved_38 : decode cX2_mayBeMoved 38 = .ok (.ifCond .eq 27, 3) := by decide +kernel
theorem dX2_mayBeMoved_41 : decode cX2_mayBeMoved 41 = .ok (.aload_n 0, 1) := by decide +kernel
theorem dX2_mayBeMoved_42 : decode cX2_mayBeMoved 42 = .ok (.iload_n 2, 1) := by decide +kernel
theorem dX2_mayBeMoved_43 : decode cX2_mayBeMoved 43 = .ok (.invokevirtual 61, 3) := by decide +kernel
theorem dX2_mayBeMoved_46 : decode cX2_mayBeMoved 46 = .ok (.iload 4, 2) := by decide +kernel
theorem dX2_mayBeMoved_48 : decode cX2_mayBeMoved 48 = .ok (.if_icmp .eq 17, 3) := by decide +kernel
theorem dX2_mayBeMoved_51 : decode cX2_mayBeMoved 51 = .ok (.aload_n 0, 1) := by decide +kernel
theorem dX2_mayBeMoved_52 : decode cX2_mayBeMoved 52 = .ok (.iload_n 1, 1) := by decide +kernel
theorem dX2_mayBeMoved_53 : decode cX2_mayBeMoved 53 = .ok (.iload_n 2, 1) := by decide +kernel
theorem dX2_mayBeMoved_54 : decode cX2_mayBeMoved 54 = .ok (.aload_n 3, 1) := by decide +kernel
theorem dX2_mayBeMoved_55 : decode cX2_mayBeMoved 55 = .ok (.invokevirtual 73, 3) := by decide +kernel
theorem dX2_mayBeMoved_58 : decode cX2_mayBeMoved 58 = .ok (.ifCond .eq 7, 3) := by decide +kernel
theorem dX2_mayBeMoved_61 : decode cX2_mayBeMoved 61 = .ok (.iconst 1, 1) := by decide +kernel
theorem dX2_mayBeMoved_62 : decode cX2_mayBeMoved 62 = .ok (.goto 4, 3) := by decide +kernel
theorem dX2_mayBeMoved_65 : decode cX2_mayBeMoved 65 = .ok (.iconst 0, 1) := by decide +kernel
theorem dX2_mayBeMoved_66 : decode cX2_mayBeMoved 66 = .ok (.ireturn, 1) := by decide +kernel
set_option maxRecDepth 20000 in
theorem ggX2_bringInto_X3_bringTo : GoodIn wsX2_bringInto wsX3_bringTo := goodIn_r _ [5, 6, 7, 20, 21, 22, 23, 24, 25] (by decide +kernel) (by decide +kernel)
set_option maxRecDepth 20000 in
theorem gX2_bringInto_X3_bringTo : GoodIn wsX2_bringInto (wsV RX2 81 RX3 yX3_bringTo wsX3_bringTo) := goodIn_app (goodIn_of _ (by decide +kernel)) ggX2_bringInto_X3_bringTo
set_option maxRecDepth 20000 in
theorem ggX2_bringInto_X2_lengthOf : GoodIn wsX2_bringInto wsX2_lengthOf := goodIn_r _ [12, 13, 14, 26, 27, 28, 29, 30, 31, 32] (by decide +kernel) (by decide +kernel)
set_option maxRecDepth 20000 in
theorem gX2_bringInto_X2_lengthOf : GoodIn wsX2_bringInto (wsV RX2 69 RX2 yX2_lengthOf wsX2_lengthOf) := goodIn_app (goodIn_of _ (by decide +kernel)) ggX2_bringInto_X2_lengthOf
set_option maxRecDepth 20000 in
theorem ggX2_bringInto_X3_cutTo : GoodIn wsX2_bringInto wsX3_cutTo := goodIn_r _ [18, 19, 20, 21, 22, 23, 24, 25] (by decide +kernel) (by decide +kernel)
set_option maxRecDepth 20000 in
theorem gX2_bringInto_X3_cutTo : GoodIn wsX2_bringInto (wsV RX2 85 RX3 yX3_cutTo wsX3_cutTo) := goodIn_app (goodIn_of _ (by decide +kernel)) ggX2_bringInto_X3_cutTo
theorem dX2_bringInto_0 : decode cX2_bringInto 0 = .ok (.aload_n 3, 1) := by decide +kernel
theorem dX2_bringInto_1 : decode cX2_bringInto 1 = .ok (.iload_n 1, 1) := by decide +kernel
theorem dX2_bringInto_2 : decode cX2_bringInto 2 = .ok (.iload_n 2, 1) := by decide +kernel
theorem dX2_bringInto_3 : decode cX2_bringInto 3 = .ok (.invokevirtual 81, 3) := by decide +kernel
theorem dX2_bringInto_6 : decode cX2_bringInto 6 = .ok (.aload_n 3, 1) := by decide +kernel
theorem dX2_bringInto_7 : decode cX2_bringInto 7 = .ok (.iload_n 1, 1) := by decide +kernel
theorem dX2_bringInto_8 : decode cX2_bringInto 8 = .ok (.aload_n 0, 1) := by decide +kernel
theorem dX2_bringInto_9 : decode cX2_bringInto 9 = .ok (.iload_n 2, 1) := by decide +kernel
theorem dX2_bringInto_10 : decode cX2_bringInto 10 = .ok (.invokevirtual 69, 3) := by decide +kernel
theorem dX2_bringInto_13 : decode cX2_bringInto 13 = .ok (.invokevirtual 85, 3) := by decide +kernel
theorem dX2_bringInto_16 : decode cX2_bringInto 16 = .ok (.return_, 1) := by decide +kernel
set_option maxRecDepth 20000 in
theorem ggX2_passWatch_X3_waterInside : GoodIn wsX2_passWatch wsX3_waterInside := goodIn_r _ [11, 12, 80, 81, 82, 83, 84, 85] (by decide +kernel) (by decide +kernel)
set_option maxRecDepth 20000 in
theorem gX2_passWatch_X3_waterInside : GoodIn wsX2_passWatch (wsV RX2 88 RX3 yX3_waterInside wsX3_waterInside) := goodIn_app (goodIn_of _ (by decide +kernel)) ggX2_passWatch_X3_waterInside
set_option maxRecDepth 20000 in
theorem ggX2_passWatch_X2_leakOf : GoodIn wsX2_passWatch wsX2_leakOf := goodIn_r _ [17, 18, 19, 20, 21, 10, 22, 23, 24, 25, 26, 16, 27, 28, 73, 74, 75, 76, 77, 78, 79, 80, 81, 82, 83, 84, 85] (by decide +kernel) (by decide +kernel)
set_option maxRecDepth 20000 in
theorem gX2_passWatch_X2_leakOf : GoodIn wsX2_passWatch (wsV RX2 91 RX2 yX2_leakOf wsX2_leakOf) := goodIn_app (goodIn_of _ (by decide +kernel)) ggX2_passWatch_X2_leakOf
set_option maxRecDepth 20000 in
theorem ggX2_passWatch_X3_setWater : GoodIn wsX2_passWatch wsX3_setWater := goodIn_r _ [32, 12, 80, 81, 82, 83, 84, 85] (by decide +kernel) (by decide +kernel)
set_option maxRecDepth 20000 in
theorem gX2_passWatch_X3_setWater : GoodIn wsX2_passWatch (wsV RX2 101 RX3 yX3_setWater wsX3_setWater) := goodIn_app (goodIn_of _ (by decide +kernel)) ggX2_passWatch_X3_setWater
set_option maxRecDepth 20000 in
theorem ggX2_passWatch_X3_sink : GoodIn wsX2_passWatch wsX3_sink := goodIn_r _ [36, 37, 80, 81, 82, 83, 84, 85] (by decide +kernel) (by decide +kernel)
set_option maxRecDepth 20000 in
theorem gX2_passWatch_X3_sink : GoodIn wsX2_passWatch (wsV RX2 105 RX3 yX3_sink wsX3_sink) := goodIn_app (goodIn_of _ (by decide +kernel)) ggX2_passWatch_X3_sink
set_option maxRecDepth 20000 in
theorem ggX2_passWatch_X2_letWormsEat : GoodIn wsX2_passWatch wsX2_letWormsEat := goodIn_r _ [41, 18, 42, 43, 44, 10, 45, 23, 46, 47, 48, 49, 50, 51, 52, 53, 54, 55, 56, 57, 58, 59, 73, 74, 75, 76, 77, 78, 79, 80, 81, 82, 83, 84, 85] (by decide +kernel) (by decide +kernel)
set_option maxRecDepth 20000 in
theorem gX2_passWatch_X2_letWormsEat : GoodIn wsX2_passWatch (wsV RX2 108 RX2 yX2_letWormsEat wsX2_letWormsEat) := goodIn_app (goodIn_of _ (by decide +kernel)) ggX2_passWatch_X2_letWormsEat
set_option maxRecDepth 20000 in
theorem ggX2_passWatch_X2_letComeDown : GoodIn wsX2_passWatch wsX2_letComeDown := goodIn_r _ [63, 18, 19, 20, 21, 10, 22, 23, 64, 65, 66, 16, 67, 68, 69, 70, 71, 72, 42, 43, 44, 45, 55, 56, 57, 58, 59, 73, 74, 75, 76, 77, 78, 79, 80, 81, 82, 83, 84, 85] (by decide +kernel) (by decide +kernel)
set_option maxRecDepth 20000 in
theorem gX2_passWatch_X2_letComeDown : GoodIn wsX2_passWatch (wsV RX2 112 RX2 yX2_letComeDown wsX2_letComeDown) := goodIn_app (goodIn_of _ (by decide +kernel)) ggX2_passWatch_X2_letComeDown
theorem dX2_passWatch_0 : decode cX2_passWatch 0 = .ok (.aload_n 1, 1) := by decide +kernel
theorem dX2_passWatch_1 : decode cX2_passWatch 1 = .ok (.iconst 0, 1) := by decide +kernel
theorem dX2_passWatch_2 : decode cX2_passWatch 2 = .ok (.aload_n 1, 1) := by decide +kernel
theorem dX2_passWatch_3 : decode cX2_passWatch 3 = .ok (.invokevirtual 88, 3) := by decide +kernel
theorem dX2_passWatch_6 : decode cX2_passWatch 6 = .ok (.aload_n 0, 1) := by decide +kernel
theorem dX2_passWatch_7 : decode cX2_passWatch 7 = .ok (.aload_n 1, 1) := by decide +kernel
theorem dX2_passWatch_8 : decode cX2_passWatch 8 = .ok (.invokevirtual 91, 3) := by decide +kernel
theorem dX2_passWatch_11 : decode cX2_passWatch 11 = .ok (.iadd, 1) := by decide +kernel
theorem dX2_passWatch_12 : decode cX2_passWatch 12 = .ok (.aload_n 0, 1) := by decide +kernel
theorem dX2_passWatch_13 : decode cX2_passWatch 13 = .ok (.getfield 28, 3) := by decide +kernel
theorem dX2_passWatch_16 : decode cX2_passWatch 16 = .ok (.isub, 1) := by decide +kernel
theorem dX2_passWatch_17 : decode cX2_passWatch 17 = .ok (.invokestatic 95, 3) := by decide +kernel
theorem dX2_passWatch_20 : decode cX2_passWatch 20 = .ok (.invokevirtual 101, 3) := by decide +kernel
theorem dX2_passWatch_23 : decode cX2_passWatch 23 = .ok (.aload_n 1, 1) := by decide +kernel
theorem dX2_passWatch_24 : decode cX2_passWatch 24 = .ok (.invokevirtual 88, 3) := by decide +kernel
theorem dX2_passWatch_27 : decode cX2_passWatch 27 = .ok (.aload_n 0, 1) := by decide +kernel
theorem dX2_passWatch_28 : decode cX2_passWatch 28 = .ok (.getfield 31, 3) := by decide +kernel
theorem dX2_passWatch_31 : decode cX2_passWatch 31 = .ok (.if_icmp .le 8, 3) := by decide +kernel
theorem dX2_passWatch_34 : decode cX2_passWatch 34 = .ok (.aload_n 1, 1) := by decide +kernel
theorem dX2_passWatch_35 : decode cX2_passWatch 35 = .ok (.invokevirtual 105, 3) := by decide +kernel
theorem dX2_passWatch_38 : decode cX2_passWatch 38 = .ok (.return_, 1) := by decide +kernel
theorem dX2_passWatch_39 : decode cX2_passWatch 39 = .ok (.aload_n 0, 1) := by decide +kernel
theorem dX2_passWatch_40 : decode cX2_passWatch 40 = .ok (.aload_n 1, 1) := by decide +kernel
theorem dX2_passWatch_41 : decode cX2_passWatch 41 = .ok (.invokevirtual 108, 3) := by decide +kernel
theorem dX2_passWatch_44 : decode cX2_passWatch 44 = .ok (.aload_n 0, 1) := by decide +kernel
theorem dX2_passWatch_45 : decode cX2_passWatch 45 = .ok (.aload_n 1, 1) := by decide +kernel
theorem dX2_passWatch_46 : decode cX2_passWatch 46 = .ok (.invokevirtual 112, 3) := by decide +kernel
theorem dX2_passWatch_49 : decode cX2_passWatch 49 = .ok (.return_, 1) := by decide +kernel
set_option maxRecDepth 20000 in
theorem ggX2_letWormsEat_X3_timberIn : GoodIn wsX2_letWormsEat wsX3_timberIn := goodIn_r _ [6, 7, 29, 30, 31, 32, 33, 34] (by decide +kernel) (by decide +kernel)
set_option maxRecDepth 20000 in
theorem gX2_letWormsEat_X3_timberIn : GoodIn wsX2_letWormsEat (wsV RX2 115 RX3 yX3_timberIn wsX3_timberIn) := goodIn_app (goodIn_of _ (by decide +kernel)) ggX2_letWormsEat_X3_timberIn
set_option maxRecDepth 20000 in
theorem ggX2_letWormsEat_X3_wormsIn : GoodIn wsX2_letWormsEat wsX3_wormsIn := goodIn_r _ [11, 12, 29, 30, 31, 32, 33, 34] (by decide +kernel) (by decide +kernel)
set_option maxRecDepth 20000 in
theorem gX2_letWormsEat_X3_wormsIn : GoodIn wsX2_letWormsEat (wsV RX2 118 RX3 yX3_wormsIn wsX3_wormsIn) := goodIn_app (goodIn_of _ (by decide +kernel)) ggX2_letWormsEat_X3_wormsIn
set_option maxRecDepth 20000 in
theorem ggX2_letWormsEat_X3_addWorm : GoodIn wsX2_letWormsEat wsX3_addWorm := goodIn_r _ [16, 12, 29, 30, 31, 32, 33, 34] (by decide +kernel) (by decide +kernel)
set_option maxRecDepth 20000 in
theorem gX2_letWormsEat_X3_addWorm : GoodIn wsX2_letWormsEat (wsV RX2 121 RX3 yX3_addWorm wsX3_addWorm) := goodIn_app (goodIn_of _ (by decide +kernel)) ggX2_letWormsEat_X3_addWorm
set_option maxRecDepth 20000 in
theorem ggX2_letWormsEat_X3_bringTo : GoodIn wsX2_letWormsEat wsX3_bringTo := goodIn_r _ [20, 21, 7, 29, 30, 31, 32, 33, 34] (by decide +kernel) (by decide +kernel)
set_option maxRecDepth 20000 in
theorem gX2_letWormsEat_X3_bringTo : GoodIn wsX2_letWormsEat (wsV RX2 81 RX3 yX3_bringTo wsX3_bringTo) := goodIn_app (goodIn_of _ (by decide +kernel)) ggX2_letWormsEat_X3_bringTo
theorem dX2_letWormsEat_0 : decode cX2_letWormsEat 0 = .ok (.iconst 0, 1) := by decide +kernel
theorem dX2_letWormsEat_1 : decode cX2_letWormsEat 1 = .ok (.istore_n 2, 1) := by decide +kernel
theorem dX2_letWormsEat_2 : decode cX2_letWormsEat 2 = .ok (.iload_n 2, 1) := by decide +kernel
theorem dX2_letWormsEat_3 : decode cX2_letWormsEat 3 = .ok (.aload_n 0, 1) := by decide +kernel
theorem dX2_letWormsEat_4 : decode cX2_letWormsEat 4 = .ok (.getfield 24, 3) := by decide +kernel
theorem dX2_letWormsEat_7 : decode cX2_letWormsEat 7 = .ok (.if_icmp .ge 46, 3) := by decide +kernel
theorem dX2_letWormsEat_10 : decode cX2_letWormsEat 10 = .ok (.aload_n 1, 1) := by decide +kernel
theorem dX2_letWormsEat_11 : decode cX2_letWormsEat 11 = .ok (.iload_n 2, 1) := by decide +kernel
theorem dX2_letWormsEat_12 : decode cX2_letWormsEat 12 = .ok (.invokevirtual 115, 3) := by decide +kernel
theorem dX2_letWormsEat_15 : decode cX2_letWormsEat 15 = .ok (.istore_n 3, 1) := by decide +kernel
theorem dX2_letWormsEat_16 : decode cX2_letWormsEat 16 = .ok (.aload_n 1, 1) := by decide +kernel
theorem dX2_letWormsEat_17 : decode cX2_letWormsEat 17 = .ok (.iload_n 3, 1) := by decide +kernel
theorem dX2_letWormsEat_18 : decode cX2_letWormsEat 18 = .ok (.invokevirtual 118, 3) := by decide +kernel
theorem dX2_letWormsEat_21 : decode cX2_letWormsEat 21 = .ok (.ifCond .le 26, 3) := by decide +kernel
theorem dX2_letWormsEat_24 : decode cX2_letWormsEat 24 = .ok (.aload_n 1, 1) := by decide +kernel
theorem dX2_letWormsEat_25 : decode cX2_letWormsEat 25 = .ok (.iload_n 3, 1) := by decide +kernel
theorem dX2_letWormsEat_26 : decode cX2_letWormsEat 26 = .ok (.invokevirtual 121, 3) := by decide +kernel
theorem dX2_letWormsEat_29 : decode cX2_letWormsEat 29 = .ok (.aload_n 1, 1) := by decide +kernel
theorem dX2_letWormsEat_30 : decode cX2_letWormsEat 30 = .ok (.iload_n 3, 1) := by decide +kernel
theorem dX2_letWormsEat_31 : decode cX2_letWormsEat 31 = .ok (.invokevirtual 118, 3) := by decide +kernel
theorem dX2_letWormsEat_34 : decode cX2_letWormsEat 34 = .ok (.bipush 10, 2) := by decide +kernel
theorem dX2_letWormsEat_36 : decode cX2_letWormsEat 36 = .ok (.if_icmp .lt 11, 3) := by decide +kernel
theorem dX2_letWormsEat_39 : decode cX2_letWormsEat 39 = .ok (.aload_n 1, 1) := by decide +kernel
theorem dX2_letWormsEat_40 : decode cX2_letWormsEat 40 = .ok (.iload_n 3, 1) := by decide +kernel
theorem dX2_letWormsEat_41 : decode cX2_letWormsEat 41 = .ok (.sipush 200, 3) := by decide +kernel
theorem dX2_letWormsEat_44 : decode cX2_letWormsEat 44 = .ok (.invokevirtual 81, 3) := by decide +kernel
theorem dX2_letWormsEat_47 : decode cX2_letWormsEat 47 = .ok (.iinc 2 1, 3) := by decide +kernel
theorem dX2_letWormsEat_50 : decode cX2_letWormsEat 50 = .ok (.goto (-48), 3) := by decide +kernel
theorem dX2_letWormsEat_53 : decode cX2_letWormsEat 53 = .ok (.return_, 1) := by decide +kernel
set_option maxRecDepth 20000 in
theorem ggX2_letComeDown_X3_isOpen : GoodIn wsX2_letComeDown wsX3_isOpen := goodIn_r _ [6, 7, 34, 35, 36, 37, 38, 39] (by decide +kernel) (by decide +kernel)
set_option maxRecDepth 20000 in
theorem gX2_letComeDown_X3_isOpen : GoodIn wsX2_letComeDown (wsV RX2 54 RX3 yX3_isOpen wsX3_isOpen) := goodIn_app (goodIn_of _ (by decide +kernel)) ggX2_letComeDown_X3_isOpen
set_option maxRecDepth 20000 in
theorem ggX2_letComeDown_X2_hangsInAir : GoodIn wsX2_letComeDown wsX2_hangsInAir := goodIn_r _ [12, 13, 14, 15, 11, 16, 1, 17, 2, 3, 4, 5, 6, 7, 27, 28, 29, 30, 31, 32, 33, 34, 35, 36, 37, 38, 39] (by decide +kernel) (by decide +kernel)
set_option maxRecDepth 20000 in
theorem gX2_letComeDown_X2_hangsInAir : GoodIn wsX2_letComeDown (wsV RX2 124 RX2 yX2_hangsInAir wsX2_hangsInAir) := goodIn_app (goodIn_of _ (by decide +kernel)) ggX2_letComeDown_X2_hangsInAir
set_option maxRecDepth 20000 in
theorem ggX2_letComeDown_X3_timberIn : GoodIn wsX2_letComeDown wsX3_timberIn := goodIn_r _ [21, 7, 34, 35, 36, 37, 38, 39] (by decide +kernel) (by decide +kernel)
set_option maxRecDepth 20000 in
theorem gX2_letComeDown_X3_timberIn : GoodIn wsX2_letComeDown (wsV RX2 115 RX3 yX3_timberIn wsX3_timberIn) := goodIn_app (goodIn_of _ (by decide +kernel)) ggX2_letComeDown_X3_timberIn
set_option maxRecDepth 20000 in
theorem ggX2_letComeDown_X3_bringTo : GoodIn wsX2_letComeDown wsX3_bringTo := goodIn_r _ [25, 26, 7, 34, 35, 36, 37, 38, 39] (by decide +kernel) (by decide +kernel)
set_option maxRecDepth 20000 in
theorem gX2_letComeDown_X3_bringTo : GoodIn wsX2_letComeDown (wsV RX2 81 RX3 yX3_bringTo wsX3_bringTo) := goodIn_app (goodIn_of _ (by decide +kernel)) ggX2_letComeDown_X3_bringTo
theorem dX2_letComeDown_0 : decode cX2_letComeDown 0 = .ok (.iconst 0, 1) := by decide +kernel
theorem dX2_letComeDown_1 : decode cX2_letComeDown 1 = .ok (.istore_n 2, 1) := by decide +kernel
theorem dX2_letComeDown_2 : decode cX2_letComeDown 2 = .ok (.iload_n 2, 1) := by decide +kernel
theorem dX2_letComeDown_3 : decode cX2_letComeDown 3 = .ok (.aload_n 0, 1) := by decide +kernel
theorem dX2_letComeDown_4 : decode cX2_letComeDown 4 = .ok (.getfield 24, 3) := by decide +kernel
theorem dX2_letComeDown_7 : decode cX2_letComeDown 7 = .ok (.if_icmp .ge 37, 3) := by decide +kernel
theorem dX2_letComeDown_10 : decode cX2_letComeDown 10 = .ok (.aload_n 1, 1) := by decide +kernel
theorem dX2_letComeDown_11 : decode cX2_letComeDown 11 = .ok (.iload_n 2, 1) := by decide +kernel
theorem dX2_letComeDown_12 : decode cX2_letComeDown 12 = .ok (.invokevirtual 54, 3) := by decide +kernel
theorem dX2_letComeDown_15 : decode cX2_letComeDown 15 = .ok (.ifCond .ne 23, 3) := by decide +kernel
theorem dX2_letComeDown_18 : decode cX2_letComeDown 18 = .ok (.aload_n 0, 1) := by decide +kernel
theorem dX2_letComeDown_19 : decode cX2_letComeDown 19 = .ok (.iload_n 2, 1) := by decide +kernel
theorem dX2_letComeDown_20 : decode cX2_letComeDown 20 = .ok (.aload_n 1, 1) := by decide +kernel
theorem dX2_letComeDown_21 : decode cX2_letComeDown 21 = .ok (.invokevirtual 124, 3) := by decide +kernel
theorem dX2_letComeDown_24 : decode cX2_letComeDown 24 = .ok (.ifCond .eq 14, 3) := by decide +kernel
theorem dX2_letComeDown_27 : decode cX2_letComeDown 27 = .ok (.aload_n 1, 1) := by decide +kernel
theorem dX2_letComeDown_28 : decode cX2_letComeDown 28 = .ok (.aload_n 1, 1) := by decide +kernel
theorem dX2_letComeDown_29 : decode cX2_letComeDown 29 = .ok (.iload_n 2, 1) := by decide +kernel
theorem dX2_letComeDown_30 : decode cX2_letComeDown 30 = .ok (.invokevirtual 115, 3) := by decide +kernel
theorem dX2_letComeDown_33 : decode cX2_letComeDown 33 = .ok (.bipush 100, 2) := by decide +kernel
theorem dX2_letComeDown_35 : decode cX2_letComeDown 35 = .ok (.invokevirtual 81, 3) := by decide +kernel
theorem dX2_letComeDown_38 : decode cX2_letComeDown 38 = .ok (.iinc 2 1, 3) := by decide +kernel
theorem dX2_letComeDown_41 : decode cX2_letComeDown 41 = .ok (.goto (-39), 3) := by decide +kernel
theorem dX2_letComeDown_44 : decode cX2_letComeDown 44 = .ok (.return_, 1) := by decide +kernel
set_option maxRecDepth 20000 in
theorem ggX2_hangsInAir_X2_restsOn : GoodIn wsX2_hangsInAir wsX2_restsOn := goodIn_r _ [5, 6, 7, 14, 15, 16, 17, 18, 19, 20] (by decide +kernel) (by decide +kernel)
set_option maxRecDepth 20000 in
theorem gX2_hangsInAir_X2_restsOn : GoodIn wsX2_hangsInAir (wsV RX2 61 RX2 yX2_restsOn wsX2_restsOn) := goodIn_app (goodIn_of _ (by decide +kernel)) ggX2_hangsInAir_X2_restsOn
set_option maxRecDepth 20000 in
theorem ggX2_hangsInAir_X3_isOpen : GoodIn wsX2_hangsInAir wsX3_isOpen := goodIn_r _ [12, 13, 21, 22, 23, 24, 25, 26] (by decide +kernel) (by decide +kernel)
set_option maxRecDepth 20000 in
theorem gX2_hangsInAir_X3_isOpen : GoodIn wsX2_hangsInAir (wsV RX2 54 RX3 yX3_isOpen wsX3_isOpen) := goodIn_app (goodIn_of _ (by decide +kernel)) ggX2_hangsInAir_X3_isOpen
theorem dX2_hangsInAir_0 : decode cX2_hangsInAir 0 = .ok (.aload_n 0, 1) := by decide +kernel
theorem dX2_hangsInAir_1 : decode cX2_hangsInAir 1 = .ok (.iload_n 1, 1) := by decide +kernel
theorem dX2_hangsInAir_2 : decode cX2_hangsInAir 2 = .ok (.invokevirtual 61, 3) := by decide +kernel
theorem dX2_hangsInAir_5 : decode cX2_hangsInAir 5 = .ok (.bipush (-9), 2) := by decide +kernel
theorem dX2_hangsInAir_7 : decode cX2_hangsInAir 7 = .ok (.if_icmp .eq 19, 3) := by decide +kernel
theorem dX2_hangsInAir_10 : decode cX2_hangsInAir 10 = .ok (.aload_n 2, 1) := by decide +kernel
theorem dX2_hangsInAir_11 : decode cX2_hangsInAir 11 = .ok (.aload_n 0, 1) := by decide +kernel
theorem dX2_hangsInAir_12 : decode cX2_hangsInAir 12 = .ok (.iload_n 1, 1) := by decide +kernel
theorem dX2_hangsInAir_13 : decode cX2_hangsInAir 13 = .ok (.invokevirtual 61, 3) := by decide +kernel
theorem dX2_hangsInAir_16 : decode cX2_hangsInAir 16 = .ok (.invokevirtual 54, 3) := by decide +kernel
theorem dX2_hangsInAir_19 : decode cX2_hangsInAir 19 = .ok (.ifCond .eq 7, 3) := by decide +kernel
theorem dX2_hangsInAir_22 : decode cX2_hangsInAir 22 = .ok (.iconst 1, 1) := by decide +kernel
theorem dX2_hangsInAir_23 : decode cX2_hangsInAir 23 = .ok (.goto 4, 3) := by decide +kernel
theorem dX2_hangsInAir_26 : decode cX2_hangsInAir 26 = .ok (.iconst 0, 1) := by decide +kernel
theorem dX2_hangsInAir_27 : decode cX2_hangsInAir 27 = .ok (.ireturn, 1) := by decide +kernel
set_option maxRecDepth 20000 in
theorem ggX2_watchesAfloat_X3_isSunk : GoodIn wsX2_watchesAfloat wsX3_isSunk := goodIn_r _ [9, 10, 92, 93, 94, 95, 96, 97] (by decide +kernel) (by decide +kernel)
set_option maxRecDepth 20000 in
theorem gX2_watchesAfloat_X3_isSunk : GoodIn wsX2_watchesAfloat (wsV RX2 127 RX3 yX3_isSunk wsX3_isSunk) := goodIn_app (goodIn_of _ (by decide +kernel)) ggX2_watchesAfloat_X3_isSunk
set_option maxRecDepth 20000 in
theorem ggX2_watchesAfloat_X2_isAtRest : GoodIn wsX2_watchesAfloat wsX2_isAtRest := goodIn_r _ [15, 16, 17, 18, 19, 8, 20, 21, 22, 23, 24, 25, 26, 27, 28, 29, 30, 31, 32, 33, 14, 34, 35, 36, 37, 38, 39, 98, 99, 100, 101, 102, 103, 104, 92, 93, 94, 95, 96, 97] (by decide +kernel) (by decide +kernel)
set_option maxRecDepth 20000 in
theorem gX2_watchesAfloat_X2_isAtRest : GoodIn wsX2_watchesAfloat (wsV RX2 131 RX2 yX2_isAtRest wsX2_isAtRest) := goodIn_app (goodIn_of _ (by decide +kernel)) ggX2_watchesAfloat_X2_isAtRest
set_option maxRecDepth 20000 in
theorem ggX2_watchesAfloat_X2_watchesAtRest : GoodIn wsX2_watchesAfloat wsX2_watchesAtRest := goodIn_r _ [43, 44, 45, 46, 47, 48, 14, 49, 16, 27, 28, 29, 8, 30, 21, 50, 51, 52, 53, 54, 55, 56, 57, 58, 59, 98, 99, 100, 101, 102, 103, 104, 92, 93, 94, 95, 96, 97] (by decide +kernel) (by decide +kernel)
set_option maxRecDepth 20000 in
theorem gX2_watchesAfloat_X2_watchesAtRest : GoodIn wsX2_watchesAfloat (wsV RX2 135 RX2 yX2_watchesAtRest wsX2_watchesAtRest) := goodIn_app (goodIn_of _ (by decide +kernel)) ggX2_watchesAfloat_X2_watchesAtRest
set_option maxRecDepth 20000 in
theorem ggX2_watchesAfloat_X2_passWatch : GoodIn wsX2_watchesAfloat wsX2_passWatch := goodIn_r _ [63, 44, 64, 65, 3, 66, 45, 55, 56, 57, 8, 58, 59, 46, 47, 48, 14, 49, 16, 27, 28, 29, 30, 21, 50, 51, 52, 53, 54, 67, 68, 69, 70, 71, 72, 73, 74, 10, 75, 76, 77, 78, 17, 18, 19, 20, 22, 23, 24, 25, 26, 79, 80, 81, 82, 83, 84, 85, 86, 87, 88, 89, 90, 91, 31, 32, 33, 34, 35, 36, 37, 38, 39, 98, 99, 100, 101, 102, 103, 104, 92, 93, 94, 95, 96, 97] (by decide +kernel) (by decide +kernel)
set_option maxRecDepth 20000 in
theorem gX2_watchesAfloat_X2_passWatch : GoodIn wsX2_watchesAfloat (wsV RX2 141 RX2 yX2_passWatch wsX2_passWatch) := goodIn_app (goodIn_of _ (by decide +kernel)) ggX2_watchesAfloat_X2_passWatch
theorem dX2_watchesAfloat_0 : decode cX2_watchesAfloat 0 = .ok (.aload_n 1, 1) := by decide +kernel
theorem dX2_watchesAfloat_1 : decode cX2_watchesAfloat 1 = .ok (.invokevirtual 127, 3) := by decide +kernel
theorem dX2_watchesAfloat_4 : decode cX2_watchesAfloat 4 = .ok (.ifCond .eq 5, 3) := by decide +kernel
theorem dX2_watchesAfloat_7 : decode cX2_watchesAfloat 7 = .ok (.iconst 0, 1) := by decide +kernel
theorem dX2_watchesAfloat_8 : decode cX2_watchesAfloat 8 = .ok (.ireturn, 1) := by decide +kernel
theorem dX2_watchesAfloat_9 : decode cX2_watchesAfloat 9 = .ok (.iconst 0, 1) := by decide +kernel
theorem dX2_watchesAfloat_10 : decode cX2_watchesAfloat 10 = .ok (.istore_n 2, 1) := by decide +kernel
theorem dX2_watchesAfloat_11 : decode cX2_watchesAfloat 11 = .ok (.iload_n 2, 1) := by decide +kernel
theorem dX2_watchesAfloat_12 : decode cX2_watchesAfloat 12 = .ok (.bipush 99, 2) := by decide +kernel
theorem dX2_watchesAfloat_14 : decode cX2_watchesAfloat 14 = .ok (.if_icmp .ge 44, 3) := by decide +kernel
theorem dX2_watchesAfloat_17 : decode cX2_watchesAfloat 17 = .ok (.aload_n 0, 1) := by decide +kernel
theorem dX2_watchesAfloat_18 : decode cX2_watchesAfloat 18 = .ok (.aload_n 1, 1) := by decide +kernel
theorem dX2_watchesAfloat_19 : decode cX2_watchesAfloat 19 = .ok (.invokevirtual 131, 3) := by decide +kernel
theorem dX2_watchesAfloat_22 : decode cX2_watchesAfloat 22 = .ok (.ifCond .eq 16, 3) := by decide +kernel
theorem dX2_watchesAfloat_25 : decode cX2_watchesAfloat 25 = .ok (.bipush 99, 2) := by decide +kernel
theorem dX2_watchesAfloat_27 : decode cX2_watchesAfloat 27 = .ok (.iload_n 2, 1) := by decide +kernel
theorem dX2_watchesAfloat_28 : decode cX2_watchesAfloat 28 = .ok (.aload_n 0, 1) := by decide +kernel
theorem dX2_watchesAfloat_29 : decode cX2_watchesAfloat 29 = .ok (.aload_n 1, 1) := by decide +kernel
theorem dX2_watchesAfloat_30 : decode cX2_watchesAfloat 30 = .ok (.invokevirtual 135, 3) := by decide +kernel
theorem dX2_watchesAfloat_33 : decode cX2_watchesAfloat 33 = .ok (.iadd, 1) := by decide +kernel
theorem dX2_watchesAfloat_34 : decode cX2_watchesAfloat 34 = .ok (.invokestatic 138, 3) := by decide +kernel
theorem dX2_watchesAfloat_37 : decode cX2_watchesAfloat 37 = .ok (.ireturn, 1) := by decide +kernel
theorem dX2_watchesAfloat_38 : decode cX2_watchesAfloat 38 = .ok (.aload_n 0, 1) := by decide +kernel
theorem dX2_watchesAfloat_39 : decode cX2_watchesAfloat 39 = .ok (.aload_n 1, 1) := by decide +kernel
theorem dX2_watchesAfloat_40 : decode cX2_watchesAfloat 40 = .ok (.invokevirtual 141, 3) := by decide +kernel
theorem dX2_watchesAfloat_43 : decode cX2_watchesAfloat 43 = .ok (.aload_n 1, 1) := by decide +kernel
theorem dX2_watchesAfloat_44 : decode cX2_watchesAfloat 44 = .ok (.invokevirtual 127, 3) := by decide +kernel
theorem dX2_watchesAfloat_47 : decode cX2_watchesAfloat 47 = .ok (.ifCond .eq 5, 3) := by decide +kernel
theorem dX2_watchesAfloat_50 : decode cX2_watchesAfloat 50 = .ok (.iload_n 2, 1) := by decide +kernel
theorem dX2_watchesAfloat_51 : decode cX2_watchesAfloat 51 = .ok (.ireturn, 1) := by decide +kernel
theorem dX2_watchesAfloat_52 : decode cX2_watchesAfloat 52 = .ok (.iinc 2 1, 3) := by decide +kernel
theorem dX2_watchesAfloat_55 : decode cX2_watchesAfloat 55 = .ok (.goto (-44), 3) := by decide +kernel
theorem dX2_watchesAfloat_58 : decode cX2_watchesAfloat 58 = .ok (.bipush 99, 2) := by decide +kernel
theorem dX2_watchesAfloat_60 : decode cX2_watchesAfloat 60 = .ok (.ireturn, 1) := by decide +kernel
set_option maxRecDepth 20000 in
theorem ggX2_isAtRest_X3_timberIn : GoodIn wsX2_isAtRest wsX3_timberIn := goodIn_r _ [6, 7, 34, 35, 36, 37, 38, 39] (by decide +kernel) (by decide +kernel)
set_option maxRecDepth 20000 in
theorem gX2_isAtRest_X3_timberIn : GoodIn wsX2_isAtRest (wsV RX2 115 RX3 yX3_timberIn wsX3_timberIn) := goodIn_app (goodIn_of _ (by decide +kernel)) ggX2_isAtRest_X3_timberIn
set_option maxRecDepth 20000 in
theorem ggX2_isAtRest_X3_wormsIn : GoodIn wsX2_isAtRest wsX3_wormsIn := goodIn_r _ [11, 12, 34, 35, 36, 37, 38, 39] (by decide +kernel) (by decide +kernel)
set_option maxRecDepth 20000 in
theorem gX2_isAtRest_X3_wormsIn : GoodIn wsX2_isAtRest (wsV RX2 118 RX3 yX3_wormsIn wsX3_wormsIn) := goodIn_app (goodIn_of _ (by decide +kernel)) ggX2_isAtRest_X3_wormsIn
set_option maxRecDepth 20000 in
theorem ggX2_isAtRest_X3_isOpen : GoodIn wsX2_isAtRest wsX3_isOpen := goodIn_r _ [16, 7, 34, 35, 36, 37, 38, 39] (by decide +kernel) (by decide +kernel)
set_option maxRecDepth 20000 in
theorem gX2_isAtRest_X3_isOpen : GoodIn wsX2_isAtRest (wsV RX2 54 RX3 yX3_isOpen wsX3_isOpen) := goodIn_app (goodIn_of _ (by decide +kernel)) ggX2_isAtRest_X3_isOpen
set_option maxRecDepth 20000 in
theorem ggX2_isAtRest_X2_hangsInAir : GoodIn wsX2_isAtRest wsX2_hangsInAir := goodIn_r _ [21, 22, 23, 24, 20, 25, 1, 26, 13, 14, 15, 5, 16, 7, 27, 28, 29, 30, 31, 32, 33, 34, 35, 36, 37, 38, 39] (by decide +kernel) (by decide +kernel)
set_option maxRecDepth 20000 in
theorem gX2_isAtRest_X2_hangsInAir : GoodIn wsX2_isAtRest (wsV RX2 124 RX2 yX2_hangsInAir wsX2_hangsInAir) := goodIn_app (goodIn_of _ (by decide +kernel)) ggX2_isAtRest_X2_hangsInAir
theorem dX2_isAtRest_0 : decode cX2_isAtRest 0 = .ok (.iconst 0, 1) := by decide +kernel
theorem dX2_isAtRest_1 : decode cX2_isAtRest 1 = .ok (.istore_n 2, 1) := by decide +kernel
theorem dX2_isAtRest_2 : decode cX2_isAtRest 2 = .ok (.iload_n 2, 1) := by decide +kernel
theorem dX2_isAtRest_3 : decode cX2_isAtRest 3 = .ok (.aload_n 0, 1) := by decide +kernel
theorem dX2_isAtRest_4 : decode cX2_isAtRest 4 = .ok (.getfield 24, 3) := by decide +kernel
theorem dX2_isAtRest_7 : decode cX2_isAtRest 7 = .ok (.if_icmp .ge 40, 3) := by decide +kernel
theorem dX2_isAtRest_10 : decode cX2_isAtRest 10 = .ok (.aload_n 1, 1) := by decide +kernel
theorem dX2_isAtRest_11 : decode cX2_isAtRest 11 = .ok (.aload_n 1, 1) := by decide +kernel
theorem dX2_isAtRest_12 : decode cX2_isAtRest 12 = .ok (.iload_n 2, 1) := by decide +kernel
theorem dX2_isAtRest_13 : decode cX2_isAtRest 13 = .ok (.invokevirtual 115, 3) := by decide +kernel
theorem dX2_isAtRest_16 : decode cX2_isAtRest 16 = .ok (.invokevirtual 118, 3) := by decide +kernel
theorem dX2_isAtRest_19 : decode cX2_isAtRest 19 = .ok (.ifCond .gt 20, 3) := by decide +kernel
theorem dX2_isAtRest_22 : decode cX2_isAtRest 22 = .ok (.aload_n 1, 1) := by decide +kernel
theorem dX2_isAtRest_23 : decode cX2_isAtRest 23 = .ok (.iload_n 2, 1) := by decide +kernel
theorem dX2_isAtRest_24 : decode cX2_isAtRest 24 = .ok (.invokevirtual 54, 3) := by decide +kernel
theorem dX2_isAtRest_27 : decode cX2_isAtRest 27 = .ok (.ifCond .ne 14, 3) := by decide +kernel
theorem dX2_isAtRest_30 : decode cX2_isAtRest 30 = .ok (.aload_n 0, 1) := by decide +kernel
theorem dX2_isAtRest_31 : decode cX2_isAtRest 31 = .ok (.iload_n 2, 1) := by decide +kernel
theorem dX2_isAtRest_32 : decode cX2_isAtRest 32 = .ok (.aload_n 1, 1) := by decide +kernel
theorem dX2_isAtRest_33 : decode cX2_isAtRest 33 = .ok (.invokevirtual 124, 3) := by decide +kernel
theorem dX2_isAtRest_36 : decode cX2_isAtRest 36 = .ok (.ifCond .eq 5, 3) := by decide +kernel
theorem dX2_isAtRest_39 : decode cX2_isAtRest 39 = .ok (.iconst 0, 1) := by decide +kernel
theorem dX2_isAtRest_40 : decode cX2_isAtRest 40 = .ok (.ireturn, 1) := by decide +kernel
theorem dX2_isAtRest_41 : decode cX2_isAtRest 41 = .ok (.iinc 2 1, 3) := by decide +kernel
theorem dX2_isAtRest_44 : decode cX2_isAtRest 44 = .ok (.goto (-42), 3) := by decide +kernel
theorem dX2_isAtRest_47 : decode cX2_isAtRest 47 = .ok (.iconst 1, 1) := by decide +kernel
theorem dX2_isAtRest_48 : decode cX2_isAtRest 48 = .ok (.ireturn, 1) := by decide +kernel
set_option maxRecDepth 20000 in
theorem ggX2_watchesAtRest_X2_leakOf : GoodIn wsX2_watchesAtRest wsX2_leakOf := goodIn_r _ [7, 8, 9, 10, 11, 12, 13, 14, 15, 16, 17, 6, 18, 19, 25, 26, 27, 28, 29, 30, 31, 32, 33, 34, 35, 36, 37] (by decide +kernel) (by decide +kernel)
set_option maxRecDepth 20000 in
theorem gX2_watchesAtRest_X2_leakOf : GoodIn wsX2_watchesAtRest (wsV RX2 91 RX2 yX2_leakOf wsX2_leakOf) := goodIn_app (goodIn_of _ (by decide +kernel)) ggX2_watchesAtRest_X2_leakOf
set_option maxRecDepth 20000 in
theorem ggX2_watchesAtRest_X3_waterInside : GoodIn wsX2_watchesAtRest wsX3_waterInside := goodIn_r _ [23, 24, 32, 33, 34, 35, 36, 37] (by decide +kernel) (by decide +kernel)
set_option maxRecDepth 20000 in
theorem gX2_watchesAtRest_X3_waterInside : GoodIn wsX2_watchesAtRest (wsV RX2 88 RX3 yX3_waterInside wsX3_waterInside) := goodIn_app (goodIn_of _ (by decide +kernel)) ggX2_watchesAtRest_X3_waterInside
theorem dX2_watchesAtRest_0 : decode cX2_watchesAtRest 0 = .ok (.aload_n 0, 1) := by decide +kernel
theorem dX2_watchesAtRest_1 : decode cX2_watchesAtRest 1 = .ok (.aload_n 1, 1) := by decide +kernel
theorem dX2_watchesAtRest_2 : decode cX2_watchesAtRest 2 = .ok (.invokevirtual 91, 3) := by decide +kernel
theorem dX2_watchesAtRest_5 : decode cX2_watchesAtRest 5 = .ok (.aload_n 0, 1) := by decide +kernel
theorem dX2_watchesAtRest_6 : decode cX2_watchesAtRest 6 = .ok (.getfield 28, 3) := by decide +kernel
theorem dX2_watchesAtRest_9 : decode cX2_watchesAtRest 9 = .ok (.isub, 1) := by decide +kernel
theorem dX2_watchesAtRest_10 : decode cX2_watchesAtRest 10 = .ok (.istore_n 2, 1) := by decide +kernel
theorem dX2_watchesAtRest_11 : decode cX2_watchesAtRest 11 = .ok (.iload_n 2, 1) := by decide +kernel
theorem dX2_watchesAtRest_12 : decode cX2_watchesAtRest 12 = .ok (.ifCond .le 17, 3) := by decide +kernel
theorem dX2_watchesAtRest_15 : decode cX2_watchesAtRest 15 = .ok (.aload_n 0, 1) := by decide +kernel
theorem dX2_watchesAtRest_16 : decode cX2_watchesAtRest 16 = .ok (.getfield 31, 3) := by decide +kernel
theorem dX2_watchesAtRest_19 : decode cX2_watchesAtRest 19 = .ok (.aload_n 1, 1) := by decide +kernel
theorem dX2_watchesAtRest_20 : decode cX2_watchesAtRest 20 = .ok (.invokevirtual 88, 3) := by decide +kernel
theorem dX2_watchesAtRest_23 : decode cX2_watchesAtRest 23 = .ok (.isub, 1) := by decide +kernel
theorem dX2_watchesAtRest_24 : decode cX2_watchesAtRest 24 = .ok (.iload_n 2, 1) := by decide +kernel
theorem dX2_watchesAtRest_25 : decode cX2_watchesAtRest 25 = .ok (.idiv, 1) := by decide +kernel
theorem dX2_watchesAtRest_26 : decode cX2_watchesAtRest 26 = .ok (.goto 5, 3) := by decide +kernel
theorem dX2_watchesAtRest_29 : decode cX2_watchesAtRest 29 = .ok (.bipush 99, 2) := by decide +kernel
theorem dX2_watchesAtRest_31 : decode cX2_watchesAtRest 31 = .ok (.ireturn, 1) := by decide +kernel
end
section
set_option maxRecDepth 20000 in
theorem ggX0_init_X3_init : GoodIn wsX0_init wsX3_init := goodIn_r _ [12, 13, 2, 3, 14, 15, 16, 17, 18, 19, 20, 24, 25, 26, 27, 28, 29] (by decide +kernel) (by decide +kernel)
set_option maxRecDepth 20000 in
theorem gX0_init_X3_init : GoodIn wsX0_init (wsX3_init) := ggX0_init_X3_init
theorem dX0_init_0 : decode cX0_init 0 = .ok (.aload_n 0, 1) := by decide +kernel
theorem dX0_init_1 : decode cX0_init 1 = .ok (.invokespecial 3, 3) := by decide +kernel
theorem dX0_init_4 : decode cX0_init 4 = .ok (.aload_n 0, 1) := by decide +kernel
theorem dX0_init_5 : decode cX0_init 5 = .ok (.bipush 24, 2) := by decide +kernel
theorem dX0_init_7 : decode cX0_init 7 = .ok (.anewarray 9, 3) := by decide +kernel
theorem dX0_init_10 : decode cX0_init 10 = .ok (.putfield 11, 3) := by decide +kernel
theorem dX0_init_13 : decode cX0_init 13 = .ok (.aload_n 0, 1) := by decide +kernel
theorem dX0_init_14 : decode cX0_init 14 = .ok (.iconst 0, 1) := by decide +kernel
theorem dX0_init_15 : decode cX0_init 15 = .ok (.putfield 17, 3) := by decide +kernel
theorem dX0_init_18 : decode cX0_init 18 = .ok (.aload_n 0, 1) := by decide +kernel
theorem dX0_init_19 : decode cX0_init 19 = .ok (.iconst 0, 1) := by decide +kernel
theorem dX0_init_20 : decode cX0_init 20 = .ok (.putfield 21, 3) := by decide +kernel
theorem dX0_init_23 : decode cX0_init 23 = .ok (.iconst 0, 1) := by decide +kernel
theorem dX0_init_24 : decode cX0_init 24 = .ok (.istore_n 1, 1) := by decide +kernel
theorem dX0_init_25 : decode cX0_init 25 = .ok (.iload_n 1, 1) := by decide +kernel
theorem dX0_init_26 : decode cX0_init 26 = .ok (.bipush 24, 2) := by decide +kernel
theorem dX0_init_28 : decode cX0_init 28 = .ok (.if_icmp .ge 22, 3) := by decide +kernel
theorem dX0_init_31 : decode cX0_init 31 = .ok (.aload_n 0, 1) := by decide +kernel
theorem dX0_init_32 : decode cX0_init 32 = .ok (.getfield 11, 3) := by decide +kernel
theorem dX0_init_35 : decode cX0_init 35 = .ok (.iload_n 1, 1) := by decide +kernel
theorem dX0_init_36 : decode cX0_init 36 = .ok (.new 9, 3) := by decide +kernel
theorem dX0_init_39 : decode cX0_init 39 = .ok (.dup, 1) := by decide +kernel
theorem dX0_init_40 : decode cX0_init 40 = .ok (.invokespecial 24, 3) := by decide +kernel
theorem dX0_init_43 : decode cX0_init 43 = .ok (.aastore, 1) := by decide +kernel
theorem dX0_init_44 : decode cX0_init 44 = .ok (.iinc 1 1, 3) := by decide +kernel
theorem dX0_init_47 : decode cX0_init 47 = .ok (.goto (-22), 3) := by decide +kernel
theorem dX0_init_50 : decode cX0_init 50 = .ok (.return_, 1) := by decide +kernel
theorem dX0_size_0 : decode cX0_size 0 = .ok (.aload_n 0, 1) := by decide +kernel
theorem dX0_size_1 : decode cX0_size 1 = .ok (.getfield 21, 3) := by decide +kernel
theorem dX0_size_4 : decode cX0_size 4 = .ok (.ireturn, 1) := by decide +kernel
theorem dX0_forgetAll_0 : decode cX0_forgetAll 0 = .ok (.aload_n 0, 1) := by decide +kernel
theorem dX0_forgetAll_1 : decode cX0_forgetAll 1 = .ok (.iconst 0, 1) := by decide +kernel
theorem dX0_forgetAll_2 : decode cX0_forgetAll 2 = .ok (.putfield 21, 3) := by decide +kernel
theorem dX0_forgetAll_5 : decode cX0_forgetAll 5 = .ok (.return_, 1) := by decide +kernel
set_option maxRecDepth 20000 in
theorem ggX0_remember_J9_floorMod_7cf53 : GoodIn wsX0_remember wsJ9_floorMod_7cf53 := goodIn_r _ [7] (by decide +kernel) (by decide +kernel)
set_option maxRecDepth 20000 in
theorem gX0_remember_J9_floorMod_7cf53 : GoodIn wsX0_remember (va_wsS RX0 25 yJ9_floorMod_7cf53 wsJ9_floorMod_7cf53) := goodIn_app (goodIn_of _ (by decide +kernel)) ggX0_remember_J9_floorMod_7cf53
set_option maxRecDepth 20000 in
theorem ggX0_remember_X0_behindLast : GoodIn wsX0_remember wsX0_behindLast := goodIn_r _ [12, 2, 1, 4, 5, 6, 7, 28, 29, 30] (by decide +kernel) (by decide +kernel)
set_option maxRecDepth 20000 in
theorem gX0_remember_X0_behindLast : GoodIn wsX0_remember (wsV RX0 31 RX0 yX0_behindLast wsX0_behindLast) := goodIn_app (goodIn_of _ (by decide +kernel)) ggX0_remember_X0_behindLast
set_option maxRecDepth 20000 in
theorem ggX0_remember_X3_copyFrom : GoodIn wsX0_remember wsX3_copyFrom := goodIn_r _ [17, 18, 19, 20, 21, 22, 23, 24, 25, 26, 27, 31, 32, 33, 34, 35, 36] (by decide +kernel) (by decide +kernel)
set_option maxRecDepth 20000 in
theorem gX0_remember_X3_copyFrom : GoodIn wsX0_remember (wsV RX0 35 RX3 yX3_copyFrom wsX3_copyFrom) := goodIn_app (goodIn_of _ (by decide +kernel)) ggX0_remember_X3_copyFrom
theorem dX0_remember_0 : decode cX0_remember 0 = .ok (.aload_n 0, 1) := by decide +kernel
theorem dX0_remember_1 : decode cX0_remember 1 = .ok (.getfield 21, 3) := by decide +kernel
theorem dX0_remember_4 : decode cX0_remember 4 = .ok (.bipush 24, 2) := by decide +kernel
theorem dX0_remember_6 : decode cX0_remember 6 = .ok (.if_icmp .lt 28, 3) := by decide +kernel
theorem dX0_remember_9 : decode cX0_remember 9 = .ok (.aload_n 0, 1) := by decide +kernel
theorem dX0_remember_10 : decode cX0_remember 10 = .ok (.aload_n 0, 1) := by decide +kernel
theorem dX0_remember_11 : decode cX0_remember 11 = .ok (.getfield 17, 3) := by decide +kernel
theorem dX0_remember_14 : decode cX0_remember 14 = .ok (.iconst 1, 1) := by decide +kernel
theorem dX0_remember_15 : decode cX0_remember 15 = .ok (.iadd, 1) := by decide +kernel
theorem dX0_remember_16 : decode cX0_remember 16 = .ok (.bipush 24, 2) := by decide +kernel
theorem dX0_remember_18 : decode cX0_remember 18 = .ok (.invokestatic 25, 3) := by decide +kernel
theorem dX0_remember_21 : decode cX0_remember 21 = .ok (.putfield 17, 3) := by decide +kernel
theorem dX0_remember_24 : decode cX0_remember 24 = .ok (.aload_n 0, 1) := by decide +kernel
theorem dX0_remember_25 : decode cX0_remember 25 = .ok (.dup, 1) := by decide +kernel
theorem dX0_remember_26 : decode cX0_remember 26 = .ok (.getfield 21, 3) := by decide +kernel
theorem dX0_remember_29 : decode cX0_remember 29 = .ok (.iconst 1, 1) := by decide +kernel
theorem dX0_remember_30 : decode cX0_remember 30 = .ok (.isub, 1) := by decide +kernel
theorem dX0_remember_31 : decode cX0_remember 31 = .ok (.putfield 21, 3) := by decide +kernel
theorem dX0_remember_34 : decode cX0_remember 34 = .ok (.aload_n 0, 1) := by decide +kernel
theorem dX0_remember_35 : decode cX0_remember 35 = .ok (.getfield 11, 3) := by decide +kernel
theorem dX0_remember_38 : decode cX0_remember 38 = .ok (.aload_n 0, 1) := by decide +kernel
theorem dX0_remember_39 : decode cX0_remember 39 = .ok (.invokevirtual 31, 3) := by decide +kernel
theorem dX0_remember_42 : decode cX0_remember 42 = .ok (.aaload, 1) := by decide +kernel
theorem dX0_remember_43 : decode cX0_remember 43 = .ok (.aload_n 1, 1) := by decide +kernel
theorem dX0_remember_44 : decode cX0_remember 44 = .ok (.invokevirtual 35, 3) := by decide +kernel
theorem dX0_remember_47 : decode cX0_remember 47 = .ok (.aload_n 0, 1) := by decide +kernel
theorem dX0_remember_48 : decode cX0_remember 48 = .ok (.dup, 1) := by decide +kernel
theorem dX0_remember_49 : decode cX0_remember 49 = .ok (.getfield 21, 3) := by decide +kernel
theorem dX0_remember_52 : decode cX0_remember 52 = .ok (.iconst 1, 1) := by decide +kernel
theorem dX0_remember_53 : decode cX0_remember 53 = .ok (.iadd, 1) := by decide +kernel
theorem dX0_remember_54 : decode cX0_remember 54 = .ok (.putfield 21, 3) := by decide +kernel
theorem dX0_remember_57 : decode cX0_remember 57 = .ok (.return_, 1) := by decide +kernel
set_option maxRecDepth 20000 in
theorem ggX0_undoLast_X0_behindLast : GoodIn wsX0_undoLast wsX0_behindLast := goodIn_r _ [7, 8, 1, 9, 10, 11, 12, 28, 29, 30] (by decide +kernel) (by decide +kernel)
set_option maxRecDepth 20000 in
theorem gX0_undoLast_X0_behindLast : GoodIn wsX0_undoLast (wsV RX0 31 RX0 yX0_behindLast wsX0_behindLast) := goodIn_app (goodIn_of _ (by decide +kernel)) ggX0_undoLast_X0_behindLast
set_option maxRecDepth 20000 in
theorem ggX0_undoLast_X3_copyFrom : GoodIn wsX0_undoLast wsX3_copyFrom := goodIn_r _ [17, 18, 19, 20, 21, 22, 23, 24, 25, 26, 27, 31, 32, 33, 34, 35, 36] (by decide +kernel) (by decide +kernel)
set_option maxRecDepth 20000 in
theorem gX0_undoLast_X3_copyFrom : GoodIn wsX0_undoLast (wsV RX0 35 RX3 yX3_copyFrom wsX3_copyFrom) := goodIn_app (goodIn_of _ (by decide +kernel)) ggX0_undoLast_X3_copyFrom
theorem dX0_undoLast_0 : decode cX0_undoLast 0 = .ok (.aload_n 0, 1) := by decide +kernel
theorem dX0_undoLast_1 : decode cX0_undoLast 1 = .ok (.getfield 21, 3) := by decide +kernel
theorem dX0_undoLast_4 : decode cX0_undoLast 4 = .ok (.ifCond .le 26, 3) := by decide +kernel
theorem dX0_undoLast_7 : decode cX0_undoLast 7 = .ok (.aload_n 0, 1) := by decide +kernel
theorem dX0_undoLast_8 : decode cX0_undoLast 8 = .ok (.dup, 1) := by decide +kernel
theorem dX0_undoLast_9 : decode cX0_undoLast 9 = .ok (.getfield 21, 3) := by decide +kernel
theorem dX0_undoLast_12 : decode cX0_undoLast 12 = .ok (.iconst 1, 1) := by decide +kernel
theorem dX0_undoLast_13 : decode cX0_undoLast 13 = .ok (.isub, 1) := by decide +kernel
theorem dX0_undoLast_14 : decode cX0_undoLast 14 = .ok (.putfield 21, 3) := by decide +kernel
theorem dX0_undoLast_17 : decode cX0_undoLast 17 = .ok (.aload_n 1, 1) := by decide +kernel
theorem dX0_undoLast_18 : decode cX0_undoLast 18 = .ok (.aload_n 0, 1) := by decide +kernel
theorem dX0_undoLast_19 : decode cX0_undoLast 19 = .ok (.getfield 11, 3) := by decide +kernel
theorem dX0_undoLast_22 : decode cX0_undoLast 22 = .ok (.aload_n 0, 1) := by decide +kernel
theorem dX0_undoLast_23 : decode cX0_undoLast 23 = .ok (.invokevirtual 31, 3) := by decide +kernel
theorem dX0_undoLast_26 : decode cX0_undoLast 26 = .ok (.aaload, 1) := by decide +kernel
theorem dX0_undoLast_27 : decode cX0_undoLast 27 = .ok (.invokevirtual 35, 3) := by decide +kernel
theorem dX0_undoLast_30 : decode cX0_undoLast 30 = .ok (.return_, 1) := by decide +kernel
set_option maxRecDepth 20000 in
theorem ggX0_behindLast_J9_floorMod_7cf53 : GoodIn wsX0_behindLast wsJ9_floorMod_7cf53 := goodIn_r _ [6] (by decide +kernel) (by decide +kernel)
set_option maxRecDepth 20000 in
theorem gX0_behindLast_J9_floorMod_7cf53 : GoodIn wsX0_behindLast (va_wsS RX0 25 yJ9_floorMod_7cf53 wsJ9_floorMod_7cf53) := goodIn_app (goodIn_of _ (by decide +kernel)) ggX0_behindLast_J9_floorMod_7cf53
theorem dX0_behindLast_0 : decode cX0_behindLast 0 = .ok (.aload_n 0, 1) := by decide +kernel
theorem dX0_behindLast_1 : decode cX0_behindLast 1 = .ok (.getfield 17, 3) := by decide +kernel
theorem dX0_behindLast_4 : decode cX0_behindLast 4 = .ok (.aload_n 0, 1) := by decide +kernel
theorem dX0_behindLast_5 : decode cX0_behindLast 5 = .ok (.getfield 21, 3) := by decide +kernel
theorem dX0_behindLast_8 : decode cX0_behindLast 8 = .ok (.iadd, 1) := by decide +kernel
theorem dX0_behindLast_9 : decode cX0_behindLast 9 = .ok (.bipush 24, 2) := by decide +kernel
theorem dX0_behindLast_11 : decode cX0_behindLast 11 = .ok (.invokestatic 25, 3) := by decide +kernel
theorem dX0_behindLast_14 : decode cX0_behindLast 14 = .ok (.ireturn, 1) := by decide +kernel
end
section
set_option maxRecDepth 20000 in
theorem ggX6_init_X3_init : GoodIn wsX6_init wsX3_init := goodIn_r _ [12, 13, 2, 3, 14, 15, 16, 17, 18, 19, 20, 23, 24, 25, 26, 27, 28] (by decide +kernel) (by decide +kernel)
set_option maxRecDepth 20000 in
theorem gX6_init_X3_init : GoodIn wsX6_init (wsX3_init) := ggX6_init_X3_init
theorem dX6_init_0 : decode cX6_init 0 = .ok (.aload_n 0, 1) := by decide +kernel
theorem dX6_init_1 : decode cX6_init 1 = .ok (.invokespecial 3, 3) := by decide +kernel
theorem dX6_init_4 : decode cX6_init 4 = .ok (.aload_n 0, 1) := by decide +kernel
theorem dX6_init_5 : decode cX6_init 5 = .ok (.iconst 2, 1) := by decide +kernel
theorem dX6_init_6 : decode cX6_init 6 = .ok (.anewarray 9, 3) := by decide +kernel
theorem dX6_init_9 : decode cX6_init 9 = .ok (.putfield 11, 3) := by decide +kernel
theorem dX6_init_12 : decode cX6_init 12 = .ok (.aload_n 0, 1) := by decide +kernel
theorem dX6_init_13 : decode cX6_init 13 = .ok (.iconst 2, 1) := by decide +kernel
theorem dX6_init_14 : decode cX6_init 14 = .ok (.newarray .boolean, 2) := by decide +kernel
theorem dX6_init_16 : decode cX6_init 16 = .ok (.putfield 17, 3) := by decide +kernel
theorem dX6_init_19 : decode cX6_init 19 = .ok (.iconst 0, 1) := by decide +kernel
theorem dX6_init_20 : decode cX6_init 20 = .ok (.istore_n 1, 1) := by decide +kernel
theorem dX6_init_21 : decode cX6_init 21 = .ok (.iload_n 1, 1) := by decide +kernel
theorem dX6_init_22 : decode cX6_init 22 = .ok (.iconst 2, 1) := by decide +kernel
theorem dX6_init_23 : decode cX6_init 23 = .ok (.if_icmp .ge 22, 3) := by decide +kernel
theorem dX6_init_26 : decode cX6_init 26 = .ok (.aload_n 0, 1) := by decide +kernel
theorem dX6_init_27 : decode cX6_init 27 = .ok (.getfield 11, 3) := by decide +kernel
theorem dX6_init_30 : decode cX6_init 30 = .ok (.iload_n 1, 1) := by decide +kernel
theorem dX6_init_31 : decode cX6_init 31 = .ok (.new 9, 3) := by decide +kernel
theorem dX6_init_34 : decode cX6_init 34 = .ok (.dup, 1) := by decide +kernel
theorem dX6_init_35 : decode cX6_init 35 = .ok (.invokespecial 21, 3) := by decide +kernel
theorem dX6_init_38 : decode cX6_init 38 = .ok (.aastore, 1) := by decide +kernel
theorem dX6_init_39 : decode cX6_init 39 = .ok (.iinc 1 1, 3) := by decide +kernel
theorem dX6_init_42 : decode cX6_init 42 = .ok (.goto (-21), 3) := by decide +kernel
theorem dX6_init_45 : decode cX6_init 45 = .ok (.return_, 1) := by decide +kernel
theorem dX6_isSlot_0 : decode cX6_isSlot 0 = .ok (.iload_n 1, 1) := by decide +kernel
theorem dX6_isSlot_1 : decode cX6_isSlot 1 = .ok (.ifCond .lt 12, 3) := by decide +kernel
theorem dX6_isSlot_4 : decode cX6_isSlot 4 = .ok (.iload_n 1, 1) := by decide +kernel
theorem dX6_isSlot_5 : decode cX6_isSlot 5 = .ok (.iconst 2, 1) := by decide +kernel
theorem dX6_isSlot_6 : decode cX6_isSlot 6 = .ok (.if_icmp .ge 7, 3) := by decide +kernel
theorem dX6_isSlot_9 : decode cX6_isSlot 9 = .ok (.iconst 1, 1) := by decide +kernel
theorem dX6_isSlot_10 : decode cX6_isSlot 10 = .ok (.goto 4, 3) := by decide +kernel
theorem dX6_isSlot_13 : decode cX6_isSlot 13 = .ok (.iconst 0, 1) := by decide +kernel
theorem dX6_isSlot_14 : decode cX6_isSlot 14 = .ok (.ireturn, 1) := by decide +kernel
set_option maxRecDepth 20000 in
theorem ggX6_isFilled_X6_isSlot : GoodIn wsX6_isFilled wsX6_isSlot := goodIn_r _ [6] (by decide +kernel) (by decide +kernel)
set_option maxRecDepth 20000 in
theorem gX6_isFilled_X6_isSlot : GoodIn wsX6_isFilled (wsV RX6 22 RX6 yX6_isSlot wsX6_isSlot) := goodIn_app (goodIn_of _ (by decide +kernel)) ggX6_isFilled_X6_isSlot
theorem dX6_isFilled_0 : decode cX6_isFilled 0 = .ok (.aload_n 0, 1) := by decide +kernel
theorem dX6_isFilled_1 : decode cX6_isFilled 1 = .ok (.iload_n 1, 1) := by decide +kernel
theorem dX6_isFilled_2 : decode cX6_isFilled 2 = .ok (.invokevirtual 22, 3) := by decide +kernel
theorem dX6_isFilled_5 : decode cX6_isFilled 5 = .ok (.ifCond .eq 16, 3) := by decide +kernel
theorem dX6_isFilled_8 : decode cX6_isFilled 8 = .ok (.aload_n 0, 1) := by decide +kernel
theorem dX6_isFilled_9 : decode cX6_isFilled 9 = .ok (.getfield 17, 3) := by decide +kernel
theorem dX6_isFilled_12 : decode cX6_isFilled 12 = .ok (.iload_n 1, 1) := by decide +kernel
theorem dX6_isFilled_13 : decode cX6_isFilled 13 = .ok (.baload, 1) := by decide +kernel
theorem dX6_isFilled_14 : decode cX6_isFilled 14 = .ok (.ifCond .eq 7, 3) := by decide +kernel
theorem dX6_isFilled_17 : decode cX6_isFilled 17 = .ok (.iconst 1, 1) := by decide +kernel
theorem dX6_isFilled_18 : decode cX6_isFilled 18 = .ok (.goto 4, 3) := by decide +kernel
theorem dX6_isFilled_21 : decode cX6_isFilled 21 = .ok (.iconst 0, 1) := by decide +kernel
theorem dX6_isFilled_22 : decode cX6_isFilled 22 = .ok (.ireturn, 1) := by decide +kernel
set_option maxRecDepth 20000 in
theorem ggX6_store_X6_isSlot : GoodIn wsX6_store wsX6_isSlot := goodIn_r _ [7] (by decide +kernel) (by decide +kernel)
set_option maxRecDepth 20000 in
theorem gX6_store_X6_isSlot : GoodIn wsX6_store (wsV RX6 22 RX6 yX6_isSlot wsX6_isSlot) := goodIn_app (goodIn_of _ (by decide +kernel)) ggX6_store_X6_isSlot
set_option maxRecDepth 20000 in
theorem ggX6_store_X3_copyFrom : GoodIn wsX6_store wsX3_copyFrom := goodIn_r _ [12, 13, 14, 15, 16, 17, 18, 19, 20, 21, 22, 25, 26, 27, 28, 29, 30] (by decide +kernel) (by decide +kernel)
set_option maxRecDepth 20000 in
theorem gX6_store_X3_copyFrom : GoodIn wsX6_store (wsV RX6 26 RX3 yX3_copyFrom wsX3_copyFrom) := goodIn_app (goodIn_of _ (by decide +kernel)) ggX6_store_X3_copyFrom
theorem dX6_store_0 : decode cX6_store 0 = .ok (.aload_n 0, 1) := by decide +kernel
theorem dX6_store_1 : decode cX6_store 1 = .ok (.iload_n 1, 1) := by decide +kernel
theorem dX6_store_2 : decode cX6_store 2 = .ok (.invokevirtual 22, 3) := by decide +kernel
theorem dX6_store_5 : decode cX6_store 5 = .ok (.ifCond .eq 20, 3) := by decide +kernel
theorem dX6_store_8 : decode cX6_store 8 = .ok (.aload_n 0, 1) := by decide +kernel
theorem dX6_store_9 : decode cX6_store 9 = .ok (.getfield 11, 3) := by decide +kernel
theorem dX6_store_12 : decode cX6_store 12 = .ok (.iload_n 1, 1) := by decide +kernel
theorem dX6_store_13 : decode cX6_store 13 = .ok (.aaload, 1) := by decide +kernel
theorem dX6_store_14 : decode cX6_store 14 = .ok (.aload_n 2, 1) := by decide +kernel
theorem dX6_store_15 : decode cX6_store 15 = .ok (.invokevirtual 26, 3) := by decide +kernel
theorem dX6_store_18 : decode cX6_store 18 = .ok (.aload_n 0, 1) := by decide +kernel
theorem dX6_store_19 : decode cX6_store 19 = .ok (.getfield 17, 3) := by decide +kernel
theorem dX6_store_22 : decode cX6_store 22 = .ok (.iload_n 1, 1) := by decide +kernel
theorem dX6_store_23 : decode cX6_store 23 = .ok (.iconst 1, 1) := by decide +kernel
theorem dX6_store_24 : decode cX6_store 24 = .ok (.bastore, 1) := by decide +kernel
theorem dX6_store_25 : decode cX6_store 25 = .ok (.return_, 1) := by decide +kernel
set_option maxRecDepth 20000 in
theorem ggX6_bringBack_X6_isFilled : GoodIn wsX6_bringBack wsX6_isFilled := goodIn_r _ [6, 7, 8, 9, 10, 5, 11, 27, 28] (by decide +kernel) (by decide +kernel)
set_option maxRecDepth 20000 in
theorem gX6_bringBack_X6_isFilled : GoodIn wsX6_bringBack (wsV RX6 30 RX6 yX6_isFilled wsX6_isFilled) := goodIn_app (goodIn_of _ (by decide +kernel)) ggX6_bringBack_X6_isFilled
set_option maxRecDepth 20000 in
theorem ggX6_bringBack_X3_copyFrom : GoodIn wsX6_bringBack wsX3_copyFrom := goodIn_r _ [16, 17, 18, 19, 20, 21, 22, 23, 24, 25, 26, 29, 30, 31, 32, 33, 34] (by decide +kernel) (by decide +kernel)
set_option maxRecDepth 20000 in
theorem gX6_bringBack_X3_copyFrom : GoodIn wsX6_bringBack (wsV RX6 26 RX3 yX3_copyFrom wsX3_copyFrom) := goodIn_app (goodIn_of _ (by decide +kernel)) ggX6_bringBack_X3_copyFrom
theorem dX6_bringBack_0 : decode cX6_bringBack 0 = .ok (.aload_n 0, 1) := by decide +kernel
theorem dX6_bringBack_1 : decode cX6_bringBack 1 = .ok (.iload_n 1, 1) := by decide +kernel
theorem dX6_bringBack_2 : decode cX6_bringBack 2 = .ok (.invokevirtual 30, 3) := by decide +kernel
theorem dX6_bringBack_5 : decode cX6_bringBack 5 = .ok (.ifCond .eq 13, 3) := by decide +kernel
theorem dX6_bringBack_8 : decode cX6_bringBack 8 = .ok (.aload_n 2, 1) := by decide +kernel
theorem dX6_bringBack_9 : decode cX6_bringBack 9 = .ok (.aload_n 0, 1) := by decide +kernel
theorem dX6_bringBack_10 : decode cX6_bringBack 10 = .ok (.getfield 11, 3) := by decide +kernel
theorem dX6_bringBack_13 : decode cX6_bringBack 13 = .ok (.iload_n 1, 1) := by decide +kernel
theorem dX6_bringBack_14 : decode cX6_bringBack 14 = .ok (.aaload, 1) := by decide +kernel
theorem dX6_bringBack_15 : decode cX6_bringBack 15 = .ok (.invokevirtual 26, 3) := by decide +kernel
theorem dX6_bringBack_18 : decode cX6_bringBack 18 = .ok (.return_, 1) := by decide +kernel
theorem dX6_forgetAll_0 : decode cX6_forgetAll 0 = .ok (.iconst 0, 1) := by decide +kernel
theorem dX6_forgetAll_1 : decode cX6_forgetAll 1 = .ok (.istore_n 1, 1) := by decide +kernel
theorem dX6_forgetAll_2 : decode cX6_forgetAll 2 = .ok (.iload_n 1, 1) := by decide +kernel
theorem dX6_forgetAll_3 : decode cX6_forgetAll 3 = .ok (.iconst 2, 1) := by decide +kernel
theorem dX6_forgetAll_4 : decode cX6_forgetAll 4 = .ok (.if_icmp .ge 16, 3) := by decide +kernel
theorem dX6_forgetAll_7 : decode cX6_forgetAll 7 = .ok (.aload_n 0, 1) := by decide +kernel
theorem dX6_forgetAll_8 : decode cX6_forgetAll 8 = .ok (.getfield 17, 3) := by decide +kernel
theorem dX6_forgetAll_11 : decode cX6_forgetAll 11 = .ok (.iload_n 1, 1) := by decide +kernel
theorem dX6_forgetAll_12 : decode cX6_forgetAll 12 = .ok (.iconst 0, 1) := by decide +kernel
theorem dX6_forgetAll_13 : decode cX6_forgetAll 13 = .ok (.bastore, 1) := by decide +kernel
theorem dX6_forgetAll_14 : decode cX6_forgetAll 14 = .ok (.iinc 1 1, 3) := by decide +kernel
theorem dX6_forgetAll_17 : decode cX6_forgetAll 17 = .ok (.goto (-15), 3) := by decide +kernel
theorem dX6_forgetAll_20 : decode cX6_forgetAll 20 = .ok (.return_, 1) := by decide +kernel
end
section
theorem dX1_init_0 : decode cX1_init 0 = .ok (.aload_n 0, 1) := by decide +kernel
theorem dX1_init_1 : decode cX1_init 1 = .ok (.invokespecial 3, 3) := by decide +kernel
theorem dX1_init_4 : decode cX1_init 4 = .ok (.aload_n 0, 1) := by decide +kernel
theorem dX1_init_5 : decode cX1_init 5 = .ok (.bipush 91, 2) := by decide +kernel
theorem dX1_init_7 : decode cX1_init 7 = .ok (.newarray .long, 2) := by decide +kernel
theorem dX1_init_9 : decode cX1_init 9 = .ok (.putfield 9, 3) := by decide +kernel
theorem dX1_init_12 : decode cX1_init 12 = .ok (.aload_n 0, 1) := by decide +kernel
theorem dX1_init_13 : decode cX1_init 13 = .ok (.lconst 1, 1) := by decide +kernel
theorem dX1_init_14 : decode cX1_init 14 = .ok (.putfield 15, 3) := by decide +kernel
theorem dX1_init_17 : decode cX1_init 17 = .ok (.return_, 1) := by decide +kernel
theorem dX1_begin_0 : decode cX1_begin 0 = .ok (.iconst 0, 1) := by decide +kernel
theorem dX1_begin_1 : decode cX1_begin 1 = .ok (.istore_n 2, 1) := by decide +kernel
theorem dX1_begin_2 : decode cX1_begin 2 = .ok (.iload_n 2, 1) := by decide +kernel
theorem dX1_begin_3 : decode cX1_begin 3 = .ok (.aload_n 0, 1) := by decide +kernel
theorem dX1_begin_4 : decode cX1_begin 4 = .ok (.getfield 9, 3) := by decide +kernel
theorem dX1_begin_7 : decode cX1_begin 7 = .ok (.arraylength, 1) := by decide +kernel
theorem dX1_begin_8 : decode cX1_begin 8 = .ok (.if_icmp .ge 25, 3) := by decide +kernel
theorem dX1_begin_11 : decode cX1_begin 11 = .ok (.aload_n 0, 1) := by decide +kernel
theorem dX1_begin_12 : decode cX1_begin 12 = .ok (.getfield 9, 3) := by decide +kernel
theorem dX1_begin_15 : decode cX1_begin 15 = .ok (.iload_n 2, 1) := by decide +kernel
theorem dX1_begin_16 : decode cX1_begin 16 = .ok (.iload_n 2, 1) := by decide +kernel
theorem dX1_begin_17 : decode cX1_begin 17 = .ok (.iload_n 1, 1) := by decide +kernel
theorem dX1_begin_18 : decode cX1_begin 18 = .ok (.if_icmp .ne 7, 3) := by decide +kernel
theorem dX1_begin_21 : decode cX1_begin 21 = .ok (.lconst 1, 1) := by decide +kernel
theorem dX1_begin_22 : decode cX1_begin 22 = .ok (.goto 4, 3) := by decide +kernel
theorem dX1_begin_25 : decode cX1_begin 25 = .ok (.lconst 0, 1) := by decide +kernel
theorem dX1_begin_26 : decode cX1_begin 26 = .ok (.lastore, 1) := by decide +kernel
theorem dX1_begin_27 : decode cX1_begin 27 = .ok (.iinc 2 1, 3) := by decide +kernel
theorem dX1_begin_30 : decode cX1_begin 30 = .ok (.goto (-28), 3) := by decide +kernel
theorem dX1_begin_33 : decode cX1_begin 33 = .ok (.aload_n 0, 1) := by decide +kernel
theorem dX1_begin_34 : decode cX1_begin 34 = .ok (.lconst 1, 1) := by decide +kernel
theorem dX1_begin_35 : decode cX1_begin 35 = .ok (.putfield 15, 3) := by decide +kernel
theorem dX1_begin_38 : decode cX1_begin 38 = .ok (.return_, 1) := by decide +kernel
theorem dX1_tearOut_0 : decode cX1_tearOut 0 = .ok (.aload_n 0, 1) := by decide +kernel
theorem dX1_tearOut_1 : decode cX1_tearOut 1 = .ok (.getfield 9, 3) := by decide +kernel
theorem dX1_tearOut_4 : decode cX1_tearOut 4 = .ok (.arraylength, 1) := by decide +kernel
theorem dX1_tearOut_5 : decode cX1_tearOut 5 = .ok (.iconst 1, 1) := by decide +kernel
theorem dX1_tearOut_6 : decode cX1_tearOut 6 = .ok (.isub, 1) := by decide +kernel
theorem dX1_tearOut_7 : decode cX1_tearOut 7 = .ok (.istore_n 3, 1) := by decide +kernel
theorem dX1_tearOut_8 : decode cX1_tearOut 8 = .ok (.iload_n 3, 1) := by decide +kernel
theorem dX1_tearOut_9 : decode cX1_tearOut 9 = .ok (.ifCond .lt 66, 3) := by decide +kernel
theorem dX1_tearOut_12 : decode cX1_tearOut 12 = .ok (.iload_n 3, 1) := by decide +kernel
theorem dX1_tearOut_13 : decode cX1_tearOut 13 = .ok (.iload_n 1, 1) := by decide +kernel
theorem dX1_tearOut_14 : decode cX1_tearOut 14 = .ok (.isub, 1) := by decide +kernel
theorem dX1_tearOut_15 : decode cX1_tearOut 15 = .ok (.istore 4, 2) := by decide +kernel
theorem dX1_tearOut_17 : decode cX1_tearOut 17 = .ok (.iload 4, 2) := by decide +kernel
theorem dX1_tearOut_19 : decode cX1_tearOut 19 = .ok (.ifCond .lt 26, 3) := by decide +kernel
theorem dX1_tearOut_22 : decode cX1_tearOut 22 = .ok (.iload 4, 2) := by decide +kernel
theorem dX1_tearOut_24 : decode cX1_tearOut 24 = .ok (.aload_n 0, 1) := by decide +kernel
theorem dX1_tearOut_25 : decode cX1_tearOut 25 = .ok (.getfield 9, 3) := by decide +kernel
theorem dX1_tearOut_28 : decode cX1_tearOut 28 = .ok (.arraylength, 1) := by decide +kernel
theorem dX1_tearOut_29 : decode cX1_tearOut 29 = .ok (.if_icmp .ge 16, 3) := by decide +kernel
theorem dX1_tearOut_32 : decode cX1_tearOut 32 = .ok (.aload_n 0, 1) := by decide +kernel
theorem dX1_tearOut_33 : decode cX1_tearOut 33 = .ok (.getfield 9, 3) := by decide +kernel
theorem dX1_tearOut_36 : decode cX1_tearOut 36 = .ok (.iload 4, 2) := by decide +kernel
theorem dX1_tearOut_38 : decode cX1_tearOut 38 = .ok (.laload, 1) := by decide +kernel
theorem dX1_tearOut_39 : decode cX1_tearOut 39 = .ok (.iload_n 2, 1) := by decide +kernel
theorem dX1_tearOut_40 : decode cX1_tearOut 40 = .ok (.i2l, 1) := by decide +kernel
theorem dX1_tearOut_41 : decode cX1_tearOut 41 = .ok (.lmul, 1) := by decide +kernel
theorem dX1_tearOut_42 : decode cX1_tearOut 42 = .ok (.goto 4, 3) := by decide +kernel
theorem dX1_tearOut_45 : decode cX1_tearOut 45 = .ok (.lconst 0, 1) := by decide +kernel
theorem dX1_tearOut_46 : decode cX1_tearOut 46 = .ok (.lstore 5, 2) := by decide +kernel
theorem dX1_tearOut_48 : decode cX1_tearOut 48 = .ok (.aload_n 0, 1) := by decide +kernel
theorem dX1_tearOut_49 : decode cX1_tearOut 49 = .ok (.getfield 9, 3) := by decide +kernel
theorem dX1_tearOut_52 : decode cX1_tearOut 52 = .ok (.iload_n 3, 1) := by decide +kernel
theorem dX1_tearOut_53 : decode cX1_tearOut 53 = .ok (.aload_n 0, 1) := by decide +kernel
theorem dX1_tearOut_54 : decode cX1_tearOut 54 = .ok (.getfield 9, 3) := by decide +kernel
theorem dX1_tearOut_57 : decode cX1_tearOut 57 = .ok (.iload_n 3, 1) := by decide +kernel
theorem dX1_tearOut_58 : decode cX1_tearOut 58 = .ok (.laload, 1) := by decide +kernel
theorem dX1_tearOut_59 : decode cX1_tearOut 59 = .ok (.bipush 10, 2) := by decide +kernel
theorem dX1_tearOut_61 : decode cX1_tearOut 61 = .ok (.iload_n 2, 1) := by decide +kernel
theorem dX1_tearOut_62 : decode cX1_tearOut 62 = .ok (.isub, 1) := by decide +kernel
theorem dX1_tearOut_63 : decode cX1_tearOut 63 = .ok (.i2l, 1) := by decide +kernel
theorem dX1_tearOut_64 : decode cX1_tearOut 64 = .ok (.lmul, 1) := by decide +kernel
theorem dX1_tearOut_65 : decode cX1_tearOut 65 = .ok (.lload 5, 2) := by decide +kernel
theorem dX1_tearOut_67 : decode cX1_tearOut 67 = .ok (.ladd, 1) := by decide +kernel
theorem dX1_tearOut_68 : decode cX1_tearOut 68 = .ok (.lastore, 1) := by decide +kernel
theorem dX1_tearOut_69 : decode cX1_tearOut 69 = .ok (.iinc 3 (-1), 3) := by decide +kernel
theorem dX1_tearOut_72 : decode cX1_tearOut 72 = .ok (.goto (-64), 3) := by decide +kernel
theorem dX1_tearOut_75 : decode cX1_tearOut 75 = .ok (.aload_n 0, 1) := by decide +kernel
theorem dX1_tearOut_76 : decode cX1_tearOut 76 = .ok (.dup, 1) := by decide +kernel
theorem dX1_tearOut_77 : decode cX1_tearOut 77 = .ok (.getfield 15, 3) := by decide +kernel
theorem dX1_tearOut_80 : decode cX1_tearOut 80 = .ok (.ldc2_w 19, 3) := by decide +kernel
theorem dX1_tearOut_83 : decode cX1_tearOut 83 = .ok (.lmul, 1) := by decide +kernel
theorem dX1_tearOut_84 : decode cX1_tearOut 84 = .ok (.putfield 15, 3) := by decide +kernel
theorem dX1_tearOut_87 : decode cX1_tearOut 87 = .ok (.return_, 1) := by decide +kernel
theorem dX1_upTo_0 : decode cX1_upTo 0 = .ok (.lconst 0, 1) := by decide +kernel
theorem dX1_upTo_1 : decode cX1_upTo 1 = .ok (.lstore_n 2, 1) := by decide +kernel
theorem dX1_upTo_2 : decode cX1_upTo 2 = .ok (.iconst 0, 1) := by decide +kernel
theorem dX1_upTo_3 : decode cX1_upTo 3 = .ok (.istore 4, 2) := by decide +kernel
theorem dX1_upTo_5 : decode cX1_upTo 5 = .ok (.iload 4, 2) := by decide +kernel
theorem dX1_upTo_7 : decode cX1_upTo 7 = .ok (.iload_n 1, 1) := by decide +kernel
theorem dX1_upTo_8 : decode cX1_upTo 8 = .ok (.if_icmp .gt 29, 3) := by decide +kernel
theorem dX1_upTo_11 : decode cX1_upTo 11 = .ok (.iload 4, 2) := by decide +kernel
theorem dX1_upTo_13 : decode cX1_upTo 13 = .ok (.aload_n 0, 1) := by decide +kernel
theorem dX1_upTo_14 : decode cX1_upTo 14 = .ok (.getfield 9, 3) := by decide +kernel
theorem dX1_upTo_17 : decode cX1_upTo 17 = .ok (.arraylength, 1) := by decide +kernel
theorem dX1_upTo_18 : decode cX1_upTo 18 = .ok (.if_icmp .ge 19, 3) := by decide +kernel
theorem dX1_upTo_21 : decode cX1_upTo 21 = .ok (.lload_n 2, 1) := by decide +kernel
theorem dX1_upTo_22 : decode cX1_upTo 22 = .ok (.aload_n 0, 1) := by decide +kernel
theorem dX1_upTo_23 : decode cX1_upTo 23 = .ok (.getfield 9, 3) := by decide +kernel
theorem dX1_upTo_26 : decode cX1_upTo 26 = .ok (.iload 4, 2) := by decide +kernel
theorem dX1_upTo_28 : decode cX1_upTo 28 = .ok (.laload, 1) := by decide +kernel
theorem dX1_upTo_29 : decode cX1_upTo 29 = .ok (.ladd, 1) := by decide +kernel
theorem dX1_upTo_30 : decode cX1_upTo 30 = .ok (.lstore_n 2, 1) := by decide +kernel
theorem dX1_upTo_31 : decode cX1_upTo 31 = .ok (.iinc 4 1, 3) := by decide +kernel
theorem dX1_upTo_34 : decode cX1_upTo 34 = .ok (.goto (-29), 3) := by decide +kernel
theorem dX1_upTo_37 : decode cX1_upTo 37 = .ok (.lload_n 2, 1) := by decide +kernel
theorem dX1_upTo_38 : decode cX1_upTo 38 = .ok (.lreturn, 1) := by decide +kernel
theorem dX1_all_0 : decode cX1_all 0 = .ok (.aload_n 0, 1) := by decide +kernel
theorem dX1_all_1 : decode cX1_all 1 = .ok (.getfield 15, 3) := by decide +kernel
theorem dX1_all_4 : decode cX1_all 4 = .ok (.lreturn, 1) := by decide +kernel
end
section
set_option maxRecDepth 20000 in
theorem ggX4_init_X3_init : GoodIn wsX4_init wsX3_init := goodIn_r _ [15, 16, 2, 3, 6, 17, 18, 19, 20, 21, 22, 28, 29, 30, 31, 32, 33] (by decide +kernel) (by decide +kernel)
set_option maxRecDepth 20000 in
theorem gX4_init_X3_init : GoodIn wsX4_init (wsX3_init) := ggX4_init_X3_init
theorem dX4_init_0 : decode cX4_init 0 = .ok (.aload_n 0, 1) := by decide +kernel
theorem dX4_init_1 : decode cX4_init 1 = .ok (.invokespecial 3, 3) := by decide +kernel
theorem dX4_init_4 : decode cX4_init 4 = .ok (.aload_n 0, 1) := by decide +kernel
theorem dX4_init_5 : decode cX4_init 5 = .ok (.iconst 3, 1) := by decide +kernel
theorem dX4_init_6 : decode cX4_init 6 = .ok (.anewarray 9, 3) := by decide +kernel
theorem dX4_init_9 : decode cX4_init 9 = .ok (.putfield 11, 3) := by decide +kernel
theorem dX4_init_12 : decode cX4_init 12 = .ok (.aload_n 0, 1) := by decide +kernel
theorem dX4_init_13 : decode cX4_init 13 = .ok (.iconst 2, 1) := by decide +kernel
theorem dX4_init_14 : decode cX4_init 14 = .ok (.newarray .int, 2) := by decide +kernel
theorem dX4_init_16 : decode cX4_init 16 = .ok (.putfield 17, 3) := by decide +kernel
theorem dX4_init_19 : decode cX4_init 19 = .ok (.aload_n 0, 1) := by decide +kernel
theorem dX4_init_20 : decode cX4_init 20 = .ok (.iconst 0, 1) := by decide +kernel
theorem dX4_init_21 : decode cX4_init 21 = .ok (.putfield 21, 3) := by decide +kernel
theorem dX4_init_24 : decode cX4_init 24 = .ok (.aload_n 0, 1) := by decide +kernel
theorem dX4_init_25 : decode cX4_init 25 = .ok (.iconst 0, 1) := by decide +kernel
theorem dX4_init_26 : decode cX4_init 26 = .ok (.putfield 25, 3) := by decide +kernel
theorem dX4_init_29 : decode cX4_init 29 = .ok (.aload_n 0, 1) := by decide +kernel
theorem dX4_init_30 : decode cX4_init 30 = .ok (.aload_n 1, 1) := by decide +kernel
theorem dX4_init_31 : decode cX4_init 31 = .ok (.putfield 29, 3) := by decide +kernel
theorem dX4_init_34 : decode cX4_init 34 = .ok (.iconst 0, 1) := by decide +kernel
theorem dX4_init_35 : decode cX4_init 35 = .ok (.istore_n 2, 1) := by decide +kernel
theorem dX4_init_36 : decode cX4_init 36 = .ok (.iload_n 2, 1) := by decide +kernel
theorem dX4_init_37 : decode cX4_init 37 = .ok (.aload_n 0, 1) := by decide +kernel
theorem dX4_init_38 : decode cX4_init 38 = .ok (.getfield 11, 3) := by decide +kernel
theorem dX4_init_41 : decode cX4_init 41 = .ok (.arraylength, 1) := by decide +kernel
theorem dX4_init_42 : decode cX4_init 42 = .ok (.if_icmp .ge 22, 3) := by decide +kernel
theorem dX4_init_45 : decode cX4_init 45 = .ok (.aload_n 0, 1) := by decide +kernel
theorem dX4_init_46 : decode cX4_init 46 = .ok (.getfield 11, 3) := by decide +kernel
theorem dX4_init_49 : decode cX4_init 49 = .ok (.iload_n 2, 1) := by decide +kernel
theorem dX4_init_50 : decode cX4_init 50 = .ok (.new 9, 3) := by decide +kernel
theorem dX4_init_53 : decode cX4_init 53 = .ok (.dup, 1) := by decide +kernel
theorem dX4_init_54 : decode cX4_init 54 = .ok (.invokespecial 33, 3) := by decide +kernel
theorem dX4_init_57 : decode cX4_init 57 = .ok (.aastore, 1) := by decide +kernel
theorem dX4_init_58 : decode cX4_init 58 = .ok (.iinc 2 1, 3) := by decide +kernel
theorem dX4_init_61 : decode cX4_init 61 = .ok (.goto (-25), 3) := by decide +kernel
theorem dX4_init_64 : decode cX4_init 64 = .ok (.return_, 1) := by decide +kernel
set_option maxRecDepth 20000 in
theorem ggX4_begin_X3_copyFrom : GoodIn wsX4_begin wsX3_copyFrom := goodIn_r _ [15, 16, 17, 18, 19, 20, 21, 22, 23, 24, 25, 31, 32, 33, 34, 35, 36] (by decide +kernel) (by decide +kernel)
set_option maxRecDepth 20000 in
theorem gX4_begin_X3_copyFrom : GoodIn wsX4_begin (wsV RX4 34 RX3 yX3_copyFrom wsX3_copyFrom) := goodIn_app (goodIn_of _ (by decide +kernel)) ggX4_begin_X3_copyFrom
theorem dX4_begin_0 : decode cX4_begin 0 = .ok (.aload_n 0, 1) := by decide +kernel
theorem dX4_begin_1 : decode cX4_begin 1 = .ok (.getfield 11, 3) := by decide +kernel
theorem dX4_begin_4 : decode cX4_begin 4 = .ok (.iconst 0, 1) := by decide +kernel
theorem dX4_begin_5 : decode cX4_begin 5 = .ok (.aaload, 1) := by decide +kernel
theorem dX4_begin_6 : decode cX4_begin 6 = .ok (.aload_n 1, 1) := by decide +kernel
theorem dX4_begin_7 : decode cX4_begin 7 = .ok (.invokevirtual 34, 3) := by decide +kernel
theorem dX4_begin_10 : decode cX4_begin 10 = .ok (.aload_n 0, 1) := by decide +kernel
theorem dX4_begin_11 : decode cX4_begin 11 = .ok (.iconst 0, 1) := by decide +kernel
theorem dX4_begin_12 : decode cX4_begin 12 = .ok (.iload_n 2, 1) := by decide +kernel
theorem dX4_begin_13 : decode cX4_begin 13 = .ok (.iconst 2, 1) := by decide +kernel
theorem dX4_begin_14 : decode cX4_begin 14 = .ok (.invokestatic 38, 3) := by decide +kernel
theorem dX4_begin_17 : decode cX4_begin 17 = .ok (.invokestatic 44, 3) := by decide +kernel
theorem dX4_begin_20 : decode cX4_begin 20 = .ok (.putfield 21, 3) := by decide +kernel
theorem dX4_begin_23 : decode cX4_begin 23 = .ok (.aload_n 0, 1) := by decide +kernel
theorem dX4_begin_24 : decode cX4_begin 24 = .ok (.iconst 0, 1) := by decide +kernel
theorem dX4_begin_25 : decode cX4_begin 25 = .ok (.putfield 25, 3) := by decide +kernel
theorem dX4_begin_28 : decode cX4_begin 28 = .ok (.return_, 1) := by decide +kernel
theorem dX4_end_0 : decode cX4_end 0 = .ok (.aload_n 0, 1) := by decide +kernel
theorem dX4_end_1 : decode cX4_end 1 = .ok (.getfield 21, 3) := by decide +kernel
theorem dX4_end_4 : decode cX4_end 4 = .ok (.ifCond .lt 27, 3) := by decide +kernel
theorem dX4_end_7 : decode cX4_end 7 = .ok (.aload_n 0, 1) := by decide +kernel
theorem dX4_end_8 : decode cX4_end 8 = .ok (.getfield 21, 3) := by decide +kernel
theorem dX4_end_11 : decode cX4_end 11 = .ok (.aload_n 0, 1) := by decide +kernel
theorem dX4_end_12 : decode cX4_end 12 = .ok (.getfield 11, 3) := by decide +kernel
theorem dX4_end_15 : decode cX4_end 15 = .ok (.arraylength, 1) := by decide +kernel
theorem dX4_end_16 : decode cX4_end 16 = .ok (.if_icmp .ge 15, 3) := by decide +kernel
theorem dX4_end_19 : decode cX4_end 19 = .ok (.aload_n 0, 1) := by decide +kernel
theorem dX4_end_20 : decode cX4_end 20 = .ok (.getfield 11, 3) := by decide +kernel
theorem dX4_end_23 : decode cX4_end 23 = .ok (.aload_n 0, 1) := by decide +kernel
theorem dX4_end_24 : decode cX4_end 24 = .ok (.getfield 21, 3) := by decide +kernel
theorem dX4_end_27 : decode cX4_end 27 = .ok (.aaload, 1) := by decide +kernel
theorem dX4_end_28 : decode cX4_end 28 = .ok (.goto 9, 3) := by decide +kernel
theorem dX4_end_31 : decode cX4_end 31 = .ok (.aload_n 0, 1) := by decide +kernel
theorem dX4_end_32 : decode cX4_end 32 = .ok (.getfield 11, 3) := by decide +kernel
theorem dX4_end_35 : decode cX4_end 35 = .ok (.iconst 0, 1) := by decide +kernel
theorem dX4_end_36 : decode cX4_end 36 = .ok (.aaload, 1) := by decide +kernel
theorem dX4_end_37 : decode cX4_end 37 = .ok (.areturn, 1) := by decide +kernel
theorem dX4_copyTo_0 : decode cX4_copyTo 0 = .ok (.aload_n 0, 1) := by decide +kernel
theorem dX4_copyTo_1 : decode cX4_copyTo 1 = .ok (.getfield 17, 3) := by decide +kernel
theorem dX4_copyTo_4 : decode cX4_copyTo 4 = .ok (.iconst 0, 1) := by decide +kernel
theorem dX4_copyTo_5 : decode cX4_copyTo 5 = .ok (.aload_n 1, 1) := by decide +kernel
theorem dX4_copyTo_6 : decode cX4_copyTo 6 = .ok (.iconst 0, 1) := by decide +kernel
theorem dX4_copyTo_7 : decode cX4_copyTo 7 = .ok (.aload_n 0, 1) := by decide +kernel
theorem dX4_copyTo_8 : decode cX4_copyTo 8 = .ok (.getfield 21, 3) := by decide +kernel
theorem dX4_copyTo_11 : decode cX4_copyTo 11 = .ok (.aload_n 1, 1) := by decide +kernel
theorem dX4_copyTo_12 : decode cX4_copyTo 12 = .ok (.arraylength, 1) := by decide +kernel
theorem dX4_copyTo_13 : decode cX4_copyTo 13 = .ok (.invokestatic 38, 3) := by decide +kernel
theorem dX4_copyTo_16 : decode cX4_copyTo 16 = .ok (.invokestatic 47, 3) := by decide +kernel
theorem dX4_copyTo_19 : decode cX4_copyTo 19 = .ok (.return_, 1) := by decide +kernel
set_option maxRecDepth 20000 in
theorem ggX4_next_X4_makeNextMove : GoodIn wsX4_next wsX4_makeNextMove := goodIn_r _ [9, 3, 10, 11, 12, 13, 14, 15, 16, 17, 18, 19, 20, 21, 22, 23, 24, 25, 26, 27, 28, 29, 30, 31, 32, 33, 34, 35, 36, 37, 38, 39, 40, 41, 42, 43, 44, 45, 46, 47, 48, 49, 50, 51, 52, 53, 54, 55, 56, 57, 58, 59, 60, 61, 62, 63, 64, 65, 66, 67, 68, 69, 70, 71, 72, 73, 74, 75, 76, 77, 78, 79, 80, 81, 82, 83, 84, 85, 86, 87, 88, 89, 90, 91, 92, 93, 94, 95, 96] (by decide +kernel) (by decide +kernel)
set_option maxRecDepth 20000 in
theorem gX4_next_X4_makeNextMove : GoodIn wsX4_next (wsV RX4 54 RX4 yX4_makeNextMove wsX4_makeNextMove) := goodIn_app (goodIn_of _ (by decide +kernel)) ggX4_next_X4_makeNextMove
theorem dX4_next_0 : decode cX4_next 0 = .ok (.aload_n 0, 1) := by decide +kernel
theorem dX4_next_1 : decode cX4_next 1 = .ok (.getfield 25, 3) := by decide +kernel
theorem dX4_next_4 : decode cX4_next 4 = .ok (.ifCond .ne 7, 3) := by decide +kernel
theorem dX4_next_7 : decode cX4_next 7 = .ok (.iconst 1, 1) := by decide +kernel
theorem dX4_next_8 : decode cX4_next 8 = .ok (.goto 4, 3) := by decide +kernel
theorem dX4_next_11 : decode cX4_next 11 = .ok (.iconst 0, 1) := by decide +kernel
theorem dX4_next_12 : decode cX4_next 12 = .ok (.istore_n 1, 1) := by decide +kernel
theorem dX4_next_13 : decode cX4_next 13 = .ok (.aload_n 0, 1) := by decide +kernel
theorem dX4_next_14 : decode cX4_next 14 = .ok (.iconst 1, 1) := by decide +kernel
theorem dX4_next_15 : decode cX4_next 15 = .ok (.putfield 25, 3) := by decide +kernel
theorem dX4_next_18 : decode cX4_next 18 = .ok (.aload_n 0, 1) := by decide +kernel
theorem dX4_next_19 : decode cX4_next 19 = .ok (.getfield 21, 3) := by decide +kernel
theorem dX4_next_22 : decode cX4_next 22 = .ok (.ifCond .ne 5, 3) := by decide +kernel
theorem dX4_next_25 : decode cX4_next 25 = .ok (.iload_n 1, 1) := by decide +kernel
theorem dX4_next_26 : decode cX4_next 26 = .ok (.ireturn, 1) := by decide +kernel
theorem dX4_next_27 : decode cX4_next 27 = .ok (.iload_n 1, 1) := by decide +kernel
theorem dX4_next_28 : decode cX4_next 28 = .ok (.ifCond .eq 7, 3) := by decide +kernel
theorem dX4_next_31 : decode cX4_next 31 = .ok (.iconst 0, 1) := by decide +kernel
theorem dX4_next_32 : decode cX4_next 32 = .ok (.goto 9, 3) := by decide +kernel
theorem dX4_next_35 : decode cX4_next 35 = .ok (.aload_n 0, 1) := by decide +kernel
theorem dX4_next_36 : decode cX4_next 36 = .ok (.getfield 21, 3) := by decide +kernel
theorem dX4_next_39 : decode cX4_next 39 = .ok (.iconst 1, 1) := by decide +kernel
theorem dX4_next_40 : decode cX4_next 40 = .ok (.isub, 1) := by decide +kernel
theorem dX4_next_41 : decode cX4_next 41 = .ok (.istore_n 2, 1) := by decide +kernel
theorem dX4_next_42 : decode cX4_next 42 = .ok (.iload_n 1, 1) := by decide +kernel
theorem dX4_next_43 : decode cX4_next 43 = .ok (.ifCond .eq 10, 3) := by decide +kernel
theorem dX4_next_46 : decode cX4_next 46 = .ok (.aload_n 0, 1) := by decide +kernel
theorem dX4_next_47 : decode cX4_next 47 = .ok (.getfield 17, 3) := by decide +kernel
theorem dX4_next_50 : decode cX4_next 50 = .ok (.iconst 0, 1) := by decide +kernel
theorem dX4_next_51 : decode cX4_next 51 = .ok (.iconst (-1), 1) := by decide +kernel
theorem dX4_next_52 : decode cX4_next 52 = .ok (.iastore, 1) := by decide +kernel
theorem dX4_next_53 : decode cX4_next 53 = .ok (.iconst 0, 1) := by decide +kernel
theorem dX4_next_54 : decode cX4_next 54 = .ok (.istore_n 3, 1) := by decide +kernel
theorem dX4_next_55 : decode cX4_next 55 = .ok (.iload_n 3, 1) := by decide +kernel
theorem dX4_next_56 : decode cX4_next 56 = .ok (.ldc 53, 2) := by decide +kernel
theorem dX4_next_58 : decode cX4_next 58 = .ok (.if_icmp .ge 57, 3) := by decide +kernel
theorem dX4_next_61 : decode cX4_next 61 = .ok (.iload_n 2, 1) := by decide +kernel
theorem dX4_next_62 : decode cX4_next 62 = .ok (.ifCond .lt 53, 3) := by decide +kernel
theorem dX4_next_65 : decode cX4_next 65 = .ok (.iload_n 2, 1) := by decide +kernel
theorem dX4_next_66 : decode cX4_next 66 = .ok (.aload_n 0, 1) := by decide +kernel
theorem dX4_next_67 : decode cX4_next 67 = .ok (.getfield 21, 3) := by decide +kernel
theorem dX4_next_70 : decode cX4_next 70 = .ok (.if_icmp .ge 45, 3) := by decide +kernel
theorem dX4_next_73 : decode cX4_next 73 = .ok (.aload_n 0, 1) := by decide +kernel
theorem dX4_next_74 : decode cX4_next 74 = .ok (.iload_n 2, 1) := by decide +kernel
theorem dX4_next_75 : decode cX4_next 75 = .ok (.invokevirtual 54, 3) := by decide +kernel
theorem dX4_next_78 : decode cX4_next 78 = .ok (.ifCond .ne 9, 3) := by decide +kernel
theorem dX4_next_81 : decode cX4_next 81 = .ok (.iinc 2 (-1), 3) := by decide +kernel
theorem dX4_next_84 : decode cX4_next 84 = .ok (.goto 25, 3) := by decide +kernel
theorem dX4_next_87 : decode cX4_next 87 = .ok (.iload_n 2, 1) := by decide +kernel
theorem dX4_next_88 : decode cX4_next 88 = .ok (.aload_n 0, 1) := by decide +kernel
theorem dX4_next_89 : decode cX4_next 89 = .ok (.getfield 21, 3) := by decide +kernel
theorem dX4_next_92 : decode cX4_next 92 = .ok (.iconst 1, 1) := by decide +kernel
theorem dX4_next_93 : decode cX4_next 93 = .ok (.isub, 1) := by decide +kernel
theorem dX4_next_94 : decode cX4_next 94 = .ok (.if_icmp .ne 5, 3) := by decide +kernel
theorem dX4_next_97 : decode cX4_next 97 = .ok (.iconst 1, 1) := by decide +kernel
theorem dX4_next_98 : decode cX4_next 98 = .ok (.ireturn, 1) := by decide +kernel
theorem dX4_next_99 : decode cX4_next 99 = .ok (.iinc 2 1, 3) := by decide +kernel
theorem dX4_next_102 : decode cX4_next 102 = .ok (.aload_n 0, 1) := by decide +kernel
theorem dX4_next_103 : decode cX4_next 103 = .ok (.getfield 17, 3) := by decide +kernel
theorem dX4_next_106 : decode cX4_next 106 = .ok (.iload_n 2, 1) := by decide +kernel
theorem dX4_next_107 : decode cX4_next 107 = .ok (.iconst (-1), 1) := by decide +kernel
theorem dX4_next_108 : decode cX4_next 108 = .ok (.iastore, 1) := by decide +kernel
theorem dX4_next_109 : decode cX4_next 109 = .ok (.iinc 3 1, 3) := by decide +kernel
theorem dX4_next_112 : decode cX4_next 112 = .ok (.goto (-57), 3) := by decide +kernel
theorem dX4_next_115 : decode cX4_next 115 = .ok (.iconst 0, 1) := by decide +kernel
theorem dX4_next_116 : decode cX4_next 116 = .ok (.ireturn, 1) := by decide +kernel
set_option maxRecDepth 20000 in
theorem ggX4_makeNextMove_X2_mayBeMoved : GoodIn wsX4_makeNextMove wsX2_mayBeMoved := goodIn_r _ [8, 9, 10, 11, 12, 13, 14, 15, 16, 17, 7, 18, 19, 20, 21, 22, 23, 24, 25, 26, 27, 28, 29, 30, 31, 32, 33, 34, 35, 36, 37, 38, 39, 40, 41, 42, 43, 44, 45, 46, 47, 76, 77, 78, 79, 80, 81, 82, 83, 84, 85, 86, 87, 88] (by decide +kernel) (by decide +kernel)
set_option maxRecDepth 20000 in
theorem gX4_makeNextMove_X2_mayBeMoved : GoodIn wsX4_makeNextMove (wsV RX4 58 RX2 yX2_mayBeMoved wsX2_mayBeMoved) := goodIn_app (goodIn_of _ (by decide +kernel)) ggX4_makeNextMove_X2_mayBeMoved
set_option maxRecDepth 20000 in
theorem ggX4_makeNextMove_X3_copyFrom : GoodIn wsX4_makeNextMove wsX3_copyFrom := goodIn_r _ [51, 14, 52, 53, 54, 55, 38, 56, 33, 57, 58, 76, 77, 78, 79, 80, 81] (by decide +kernel) (by decide +kernel)
set_option maxRecDepth 20000 in
theorem gX4_makeNextMove_X3_copyFrom : GoodIn wsX4_makeNextMove (wsV RX4 34 RX3 yX3_copyFrom wsX3_copyFrom) := goodIn_app (goodIn_of _ (by decide +kernel)) ggX4_makeNextMove_X3_copyFrom
set_option maxRecDepth 20000 in
theorem ggX4_makeNextMove_X2_bringInto : GoodIn wsX4_makeNextMove wsX2_bringInto := goodIn_r _ [62, 63, 64, 65, 12, 66, 14, 33, 39, 40, 41, 7, 42, 23, 43, 67, 68, 69, 70, 38, 76, 77, 78, 79, 80, 81, 82, 83, 84, 85, 86, 87, 88] (by decide +kernel) (by decide +kernel)
set_option maxRecDepth 20000 in
theorem gX4_makeNextMove_X2_bringInto : GoodIn wsX4_makeNextMove (wsV RX4 64 RX2 yX2_bringInto wsX2_bringInto) := goodIn_app (goodIn_of _ (by decide +kernel)) ggX4_makeNextMove_X2_bringInto
theorem dX4_makeNextMove_0 : decode cX4_makeNextMove 0 = .ok (.iload_n 1, 1) := by decide +kernel
theorem dX4_makeNextMove_1 : decode cX4_makeNextMove 1 = .ok (.ifCond .lt 23, 3) := by decide +kernel
theorem dX4_makeNextMove_4 : decode cX4_makeNextMove 4 = .ok (.iload_n 1, 1) := by decide +kernel
theorem dX4_makeNextMove_5 : decode cX4_makeNextMove 5 = .ok (.aload_n 0, 1) := by decide +kernel
theorem dX4_makeNextMove_6 : decode cX4_makeNextMove 6 = .ok (.getfield 17, 3) := by decide +kernel
theorem dX4_makeNextMove_9 : decode cX4_makeNextMove 9 = .ok (.arraylength, 1) := by decide +kernel
theorem dX4_makeNextMove_10 : decode cX4_makeNextMove 10 = .ok (.if_icmp .ge 14, 3) := by decide +kernel
theorem dX4_makeNextMove_13 : decode cX4_makeNextMove 13 = .ok (.iload_n 1, 1) := by decide +kernel
theorem dX4_makeNextMove_14 : decode cX4_makeNextMove 14 = .ok (.iconst 1, 1) := by decide +kernel
theorem dX4_makeNextMove_15 : decode cX4_makeNextMove 15 = .ok (.iadd, 1) := by decide +kernel
theorem dX4_makeNextMove_16 : decode cX4_makeNextMove 16 = .ok (.aload_n 0, 1) := by decide +kernel
theorem dX4_makeNextMove_17 : decode cX4_makeNextMove 17 = .ok (.getfield 11, 3) := by decide +kernel
theorem dX4_makeNextMove_20 : decode cX4_makeNextMove 20 = .ok (.arraylength, 1) := by decide +kernel
theorem dX4_makeNextMove_21 : decode cX4_makeNextMove 21 = .ok (.if_icmp .lt 5, 3) := by decide +kernel
theorem dX4_makeNextMove_24 : decode cX4_makeNextMove 24 = .ok (.iconst 0, 1) := by decide +kernel
theorem dX4_makeNextMove_25 : decode cX4_makeNextMove 25 = .ok (.ireturn, 1) := by decide +kernel
theorem dX4_makeNextMove_26 : decode cX4_makeNextMove 26 = .ok (.aload_n 0, 1) := by decide +kernel
theorem dX4_makeNextMove_27 : decode cX4_makeNextMove 27 = .ok (.getfield 17, 3) := by decide +kernel
theorem dX4_makeNextMove_30 : decode cX4_makeNextMove 30 = .ok (.iload_n 1, 1) := by decide +kernel
theorem dX4_makeNextMove_31 : decode cX4_makeNextMove 31 = .ok (.iaload, 1) := by decide +kernel
theorem dX4_makeNextMove_32 : decode cX4_makeNextMove 32 = .ok (.iconst 1, 1) := by decide +kernel
theorem dX4_makeNextMove_33 : decode cX4_makeNextMove 33 = .ok (.iadd, 1) := by decide +kernel
theorem dX4_makeNextMove_34 : decode cX4_makeNextMove 34 = .ok (.istore_n 2, 1) := by decide +kernel
theorem dX4_makeNextMove_35 : decode cX4_makeNextMove 35 = .ok (.iload_n 2, 1) := by decide +kernel
theorem dX4_makeNextMove_36 : decode cX4_makeNextMove 36 = .ok (.bipush 100, 2) := by decide +kernel
theorem dX4_makeNextMove_38 : decode cX4_makeNextMove 38 = .ok (.if_icmp .ge 83, 3) := by decide +kernel
theorem dX4_makeNextMove_41 : decode cX4_makeNextMove 41 = .ok (.iload_n 2, 1) := by decide +kernel
theorem dX4_makeNextMove_42 : decode cX4_makeNextMove 42 = .ok (.bipush 10, 2) := by decide +kernel
theorem dX4_makeNextMove_44 : decode cX4_makeNextMove 44 = .ok (.idiv, 1) := by decide +kernel
theorem dX4_makeNextMove_45 : decode cX4_makeNextMove 45 = .ok (.istore_n 3, 1) := by decide +kernel
theorem dX4_makeNextMove_46 : decode cX4_makeNextMove 46 = .ok (.iload_n 2, 1) := by decide +kernel
theorem dX4_makeNextMove_47 : decode cX4_makeNextMove 47 = .ok (.bipush 10, 2) := by decide +kernel
theorem dX4_makeNextMove_49 : decode cX4_makeNextMove 49 = .ok (.irem, 1) := by decide +kernel
theorem dX4_makeNextMove_50 : decode cX4_makeNextMove 50 = .ok (.istore 4, 2) := by decide +kernel
theorem dX4_makeNextMove_52 : decode cX4_makeNextMove 52 = .ok (.aload_n 0, 1) := by decide +kernel
theorem dX4_makeNextMove_53 : decode cX4_makeNextMove 53 = .ok (.getfield 29, 3) := by decide +kernel
theorem dX4_makeNextMove_56 : decode cX4_makeNextMove 56 = .ok (.iload_n 3, 1) := by decide +kernel
theorem dX4_makeNextMove_57 : decode cX4_makeNextMove 57 = .ok (.iload 4, 2) := by decide +kernel
theorem dX4_makeNextMove_59 : decode cX4_makeNextMove 59 = .ok (.aload_n 0, 1) := by decide +kernel
theorem dX4_makeNextMove_60 : decode cX4_makeNextMove 60 = .ok (.getfield 11, 3) := by decide +kernel
theorem dX4_makeNextMove_63 : decode cX4_makeNextMove 63 = .ok (.iload_n 1, 1) := by decide +kernel
theorem dX4_makeNextMove_64 : decode cX4_makeNextMove 64 = .ok (.aaload, 1) := by decide +kernel
theorem dX4_makeNextMove_65 : decode cX4_makeNextMove 65 = .ok (.invokevirtual 58, 3) := by decide +kernel
theorem dX4_makeNextMove_68 : decode cX4_makeNextMove 68 = .ok (.ifCond .eq 47, 3) := by decide +kernel
theorem dX4_makeNextMove_71 : decode cX4_makeNextMove 71 = .ok (.aload_n 0, 1) := by decide +kernel
theorem dX4_makeNextMove_72 : decode cX4_makeNextMove 72 = .ok (.getfield 17, 3) := by decide +kernel
theorem dX4_makeNextMove_75 : decode cX4_makeNextMove 75 = .ok (.iload_n 1, 1) := by decide +kernel
theorem dX4_makeNextMove_76 : decode cX4_makeNextMove 76 = .ok (.iload_n 2, 1) := by decide +kernel
theorem dX4_makeNextMove_77 : decode cX4_makeNextMove 77 = .ok (.iastore, 1) := by decide +kernel
theorem dX4_makeNextMove_78 : decode cX4_makeNextMove 78 = .ok (.aload_n 0, 1) := by decide +kernel
theorem dX4_makeNextMove_79 : decode cX4_makeNextMove 79 = .ok (.getfield 11, 3) := by decide +kernel
theorem dX4_makeNextMove_82 : decode cX4_makeNextMove 82 = .ok (.iload_n 1, 1) := by decide +kernel
theorem dX4_makeNextMove_83 : decode cX4_makeNextMove 83 = .ok (.iconst 1, 1) := by decide +kernel
theorem dX4_makeNextMove_84 : decode cX4_makeNextMove 84 = .ok (.iadd, 1) := by decide +kernel
theorem dX4_makeNextMove_85 : decode cX4_makeNextMove 85 = .ok (.aaload, 1) := by decide +kernel
theorem dX4_makeNextMove_86 : decode cX4_makeNextMove 86 = .ok (.aload_n 0, 1) := by decide +kernel
theorem dX4_makeNextMove_87 : decode cX4_makeNextMove 87 = .ok (.getfield 11, 3) := by decide +kernel
theorem dX4_makeNextMove_90 : decode cX4_makeNextMove 90 = .ok (.iload_n 1, 1) := by decide +kernel
theorem dX4_makeNextMove_91 : decode cX4_makeNextMove 91 = .ok (.aaload, 1) := by decide +kernel
theorem dX4_makeNextMove_92 : decode cX4_makeNextMove 92 = .ok (.invokevirtual 34, 3) := by decide +kernel
theorem dX4_makeNextMove_95 : decode cX4_makeNextMove 95 = .ok (.aload_n 0, 1) := by decide +kernel
theorem dX4_makeNextMove_96 : decode cX4_makeNextMove 96 = .ok (.getfield 29, 3) := by decide +kernel
theorem dX4_makeNextMove_99 : decode cX4_makeNextMove 99 = .ok (.iload_n 3, 1) := by decide +kernel
theorem dX4_makeNextMove_100 : decode cX4_makeNextMove 100 = .ok (.iload 4, 2) := by decide +kernel
theorem dX4_makeNextMove_102 : decode cX4_makeNextMove 102 = .ok (.aload_n 0, 1) := by decide +kernel
theorem dX4_makeNextMove_103 : decode cX4_makeNextMove 103 = .ok (.getfield 11, 3) := by decide +kernel
theorem dX4_makeNextMove_106 : decode cX4_makeNextMove 106 = .ok (.iload_n 1, 1) := by decide +kernel
theorem dX4_makeNextMove_107 : decode cX4_makeNextMove 107 = .ok (.iconst 1, 1) := by decide +kernel
theorem dX4_makeNextMove_108 : decode cX4_makeNextMove 108 = .ok (.iadd, 1) := by decide +kernel
theorem dX4_makeNextMove_109 : decode cX4_makeNextMove 109 = .ok (.aaload, 1) := by decide +kernel
theorem dX4_makeNextMove_110 : decode cX4_makeNextMove 110 = .ok (.invokevirtual 64, 3) := by decide +kernel
theorem dX4_makeNextMove_113 : decode cX4_makeNextMove 113 = .ok (.iconst 1, 1) := by decide +kernel
theorem dX4_makeNextMove_114 : decode cX4_makeNextMove 114 = .ok (.ireturn, 1) := by decide +kernel
theorem dX4_makeNextMove_115 : decode cX4_makeNextMove 115 = .ok (.iinc 2 1, 3) := by decide +kernel
theorem dX4_makeNextMove_118 : decode cX4_makeNextMove 118 = .ok (.goto (-83), 3) := by decide +kernel
theorem dX4_makeNextMove_121 : decode cX4_makeNextMove 121 = .ok (.iconst 0, 1) := by decide +kernel
theorem dX4_makeNextMove_122 : decode cX4_makeNextMove 122 = .ok (.ireturn, 1) := by decide +kernel
end
section
/-! WHAT A STATE IS: numbers; a Load, a Hull, a Text by the cells where they stand -/
def bI (b : Bool) : Int32 := if b then 1 else 0
def oI (o : Option Nat) : Int32 := match o with
  | none => -9
  | some k => nI k
theorem bI_f {b : Bool} : bI b = 0 ↔ b = false := by cases b <;> decide
theorem bI_t {b : Bool} : ¬ bI b = 0 ↔ b = true := by cases b <;> decide
theorem nar_b (b : Bool) : narrow .boolean (.int (bI b)) = .int (bI b) := by cases b <;> rfl
theorem fit_b (b : Bool) : fits .boolean (.int (bI b)) = true := by cases b <;> rfl
theorem vnar_b (b : Bool) : vp_nar .boolean (bI b) = bI b := by cases b <;> rfl
theorem nI_le0 {n : Nat} (h : n = 0) : nI n ≤ 0 := by subst h; decide
theorem nI_eq0 {n : Nat} (h : n = 0) : nI n = 0 := by subst h; decide
theorem nI_ngt0 {n : Nat} (h : n = 0) : ¬ 0 < nI n := by subst h; decide
theorem nI_gt0 {n : Nat} (h : 0 < n) (h2 : n < 2 ^ 31) : 0 < nI n := by
  rw [Int32.lt_iff_toInt_lt, nI_toInt h2, Int32.toInt_zero]; omega
theorem nI_ne9 {n : Nat} (h : n < 2 ^ 31) : ¬ nI n = -9 := by
  intro q
  have a := nI_toInt h
  rw [q] at a
  have b : (-9 : Int32).toInt = -9 := by decide
  omega
theorem oI_9 {o : Option Nat} (h : ∀ k, o = some k → k < 2 ^ 31) : oI o = -9 ↔ o = none := by
  cases o with
  | none => simp [oI]
  | some k => simp [oI, nI_ne9 (h k rfl)]
theorem oI_lt0 {o : Option Nat} (h : ∀ k, o = some k → k < 2 ^ 31) : oI o < 0 ↔ o = none := by
  cases o with
  | none => simp [oI]
  | some k => simp [oI, nI_pos (h k rfl)]
theorem upd_nI (f : Nat → Nat) (k x : Nat) : upd (fun j => nI (f j)) k (nI x) = fun j => nI (va_up f k x j) := by
  funext j
  by_cases h : j = k
  · subst h; simp [upd, va_up]
  · simp [upd, va_up, h]
theorem upd_oI (f : Nat → Option Nat) (k : Nat) (o : Option Nat) : upd (fun j => oI (f j)) k (oI o) = fun j => oI (va_up f k o j) := by
  funext j
  by_cases h : j = k
  · subst h; simp [upd, va_up]
  · simp [upd, va_up, h]
theorem upd_bI (f : Nat → Bool) (k : Nat) (o : Bool) : upd (fun j => bI (f j)) k (bI o) = fun j => bI (va_up f k o j) := by
  funext j
  by_cases h : j = k
  · subst h; simp [upd, va_up]
  · simp [upd, va_up, h]
/-- outside the cells lo .. hi nothing has changed -/
def Same (a b : Nat) (F F' : Nat → va_E) : Prop := ∀ i, i < a ∨ b ≤ i → F' i = F i
theorem Same.rf {a b : Nat} {F : Nat → va_E} : Same a b F F := fun _ _ => rfl
theorem Same.up {a b k : Nat} {F F' : Nat → va_E} {e : va_E} (h : Same a b F F') (h1 : a ≤ k) (h2 : k < b) : Same a b F (va_up F' k e) := fun i hi => by
  rw [va_up_ne _ _ (by omega)]; exact h i hi
theorem Same.tr {a b c d x y : Nat} {F F' F'' : Nat → va_E} (h : Same a b F F') (h2 : Same c d F' F'') (h3 : x ≤ a) (h4 : b ≤ y) (h5 : x ≤ c) (h6 : d ≤ y) : Same x y F F'' := fun i hi => (h2 i (by omega)).trans (h i (by omega))
theorem Same.tr2 {c d x y : Nat} {F F' F'' : Nat → va_E} (h : Same x y F F') (h2 : Same c d F' F'') (h5 : x ≤ c) (h6 : d ≤ y) : Same x y F F'' := fun i hi => (h2 i (by omega)).trans (h i (by omega))
theorem Same.wide {a b x y : Nat} {F F' : Nat → va_E} (h : Same a b F F') (h3 : x ≤ a) (h4 : b ≤ y) : Same x y F F' := fun i hi => h i (by omega)
/-- a Load's value: where each timber is, how long, its worms; the timber in each place; water; sunk -/
abbrev LV : Type := (Nat → Nat) × (Nat → Nat) × (Nat → Nat) × (Nat → Option Nat) × Nat × Bool
def wh (w : LV) : Nat → Nat := w.1
def ln (w : LV) : Nat → Nat := w.2.1
def wo (w : LV) : Nat → Nat := w.2.2.1
def ti (w : LV) : Nat → Option Nat := w.2.2.2.1
def wa (w : LV) : Nat := w.2.2.2.2.1
def su (w : LV) : Bool := w.2.2.2.2.2
def LoadC (g : Gx) (ad : Nat → Nat) (F : Nat → va_E) (b : Nat) (w : LV) : Prop :=
  F b = .inr (3, [.ref (ad (b + 1)), .ref (ad (b + 2)), .ref (ad (b + 3)), .ref (ad (b + 4)), .int (nI (wa w)), .int (bI (su w))]) ∧
  F (b + 1) = .inl (g.2.2 0, 10, .inl (fun j => nI (wh w j))) ∧ F (b + 2) = .inl (g.2.2 0, 10, .inl (fun j => nI (ln w j))) ∧
  F (b + 3) = .inl (g.2.2 0, 10, .inl (fun j => nI (wo w j))) ∧ F (b + 4) = .inl (g.2.2 0, 10, .inl (fun j => oI (ti w j)))
theorem LoadC.keep {g : Gx} {ad : Nat → Nat} {F F' : Nat → va_E} {b : Nat} {w : LV} {x y : Nat} (h : LoadC g ad F b w) (hs : Same x y F F') (hd : b + 5 ≤ x ∨ y ≤ b) : LoadC g ad F' b w := by
  obtain ⟨h0, h1, h2, h3, h4⟩ := h
  exact ⟨by rw [hs _ (by omega)]; exact h0, by rw [hs _ (by omega)]; exact h1, by rw [hs _ (by omega)]; exact h2, by rw [hs _ (by omega)]; exact h3, by rw [hs _ (by omega)]; exact h4⟩
/-- the Hull's value: places, pumps, hold; by place: how long, what it lets in, on which it rests; by timber: its ship -/
abbrev HV : Type := Nat × Nat × Nat × (Nat → Nat) × (Nat → Nat) × (Nat → Option Nat) × (Nat → Option Nat)
def hn (h : HV) : Nat := h.1
def hpu (h : HV) : Nat := h.2.1
def hho (h : HV) : Nat := h.2.2.1
def hle (h : HV) : Nat → Nat := h.2.2.2.1
def hin_ (h : HV) : Nat → Nat := h.2.2.2.2.1
def hre (h : HV) : Nat → Option Nat := h.2.2.2.2.2.1
def hsh (h : HV) : Nat → Option Nat := h.2.2.2.2.2.2
def HullC (g : Gx) (ad : Nat → Nat) (F : Nat → va_E) (h : HV) : Prop :=
  F 3 = .inr (2, [.ref (ad 4), .ref (ad 5), .ref (ad 6), .ref (ad 7), .int (nI (hn h)), .int (nI (hpu h)), .int (nI (hho h))]) ∧
  F 4 = .inl (g.2.2 0, 10, .inl (fun j => nI (hle h j))) ∧ F 5 = .inl (g.2.2 0, 10, .inl (fun j => nI (hin_ h j))) ∧
  F 6 = .inl (g.2.2 0, 10, .inl (fun j => oI (hre h j))) ∧ F 7 = .inl (g.2.2 0, 10, .inl (fun j => oI (hsh h j)))
theorem HullC.keep {g : Gx} {ad : Nat → Nat} {F F' : Nat → va_E} {h : HV} {x y : Nat} (hh : HullC g ad F h) (hs : Same x y F F') (hd : 8 ≤ x ∨ y ≤ 3) : HullC g ad F' h := by
  obtain ⟨h0, h1, h2, h3, h4⟩ := hh
  exact ⟨by rw [hs _ (by omega)]; exact h0, by rw [hs _ (by omega)]; exact h1, by rw [hs _ (by omega)]; exact h2, by rw [hs _ (by omega)]; exact h3, by rw [hs _ (by omega)]; exact h4⟩
/-- what lies beyond the ten: as the arrays were made -/
def CAN (w : LV) : Prop := ∀ j, 10 ≤ j → wh w j = 0 ∧ ln w j = 0 ∧ wo w j = 0 ∧ ti w j = some 0
theorem cpy_10 {α : Type} {f h : Nat → α} {k : Nat} (he : ∀ j, k ≤ j → h j = f j) : va_cpy f h 0 0 k = f := by
  funext j
  by_cases hj : j < k
  · simp [va_cpy, hj]
  · have : ¬ j < k := hj
    simp [va_cpy, hj, he j (by omega)]
/-- what a hull, a load are: small numbers, one timber a place -/
def HOK (h : HV) : Prop := hn h ≤ 10 ∧ hpu h ≤ 9 ∧ hho h ≤ 99 ∧ (∀ j, hle h j ≤ 9 ∧ hin_ h j ≤ 9) ∧ (∀ j r, hre h j = some r → r < 10 ∧ (j < hn h → r < j)) ∧ ∀ j r, hsh h j = some r → r < 3
end
section
/-! LOAD: what each of its methods answers and changes -/
theorem iwX3_whereIs_X3 : ∀ w ∈ u_ws RX3 TX3 6, w ∈ wsX3_whereIs := by decide +kernel
theorem flX3_whereIs_9 : Cond.fieldLink RX3 9 RX3 (TX3 0).2.1 (TX3 0).2.2.1 ∈ wsX3_whereIs := by decide +kernel
set_option maxHeartbeats 4000000 in
set_option maxRecDepth 100000 in
theorem ctX3_whereIs (l : Launch) (g : Gx) (lo : Nat) (ad : Nat → Nat) {F : Nat → va_E} {b : Nat} {w : LV} (hb : 8 ≤ b ∧ b + 5 ≤ 196) (hL : LoadC g ad F b w) {t : Nat} (ht : t < 10) : MI l g lo 196 ad yX3_whereIs wsX3_whereIs 0 0 [.ref (ad (b)), .int (nI t)] F (fun r F' => r = nI (wh w t) ∧ F' = F) := by
  obtain ⟨h0, h1, h2, h3, h4⟩ := hL
  refine enter (cc := cX3_whereIs) (maxL := 2) (ret := some .int) (own := RX3) (by decide +kernel) rfl rfl (Nat.le_of_ble_eq_true rfl) ?_
  intro pp ee ss mm below meth cc B hini hC ls hl
  have hl : lv_has ls 2 [(0, .ref (ad (b))), (1, .int (nI t))] := hl
  refine lv_iload_n B.1 B.2.1 dX3_whereIs_0 rfl (lv_at hl 1 rfl) ?_
  refine lv_if_lt (tgt := 22) B.1 B.2.1 dX3_whereIs_1 (by decide) (fun z => absurd z (nI_pos (by omega))) (fun _ => ?_)
  refine lv_iload_n B.1 B.2.1 dX3_whereIs_4 rfl (lv_at hl 1 rfl) ?_
  refine lv_aload_n B.1 B.2.1 dX3_whereIs_5 rfl (lv_at hl 0 rfl) ?_
  refine r_cg B hC (i := b) (by omega) h0 (C := RX3) (T := TX3) (n := 6) rfl iwX3_whereIs_X3 0 (by decide) (index := 9) flX3_whereIs_9 rfl (v := .ref (ad (b + 1))) rfl dX3_whereIs_6 ?_
  refine r_calen B hC (i := b + 1) (by omega) h1 0 rfl (n := 10) rfl dX3_whereIs_9 ?_
  refine lv_icmp_ge (tgt := 22) B.1 B.2.1 dX3_whereIs_10 (by decide) (fun z => absurd z (nI_ge (by omega) (by omega))) (fun _ => ?_)
  refine lv_aload_n B.1 B.2.1 dX3_whereIs_13 rfl (lv_at hl 0 rfl) ?_
  refine r_cg B hC (i := b) (by omega) h0 (C := RX3) (T := TX3) (n := 6) rfl iwX3_whereIs_X3 0 (by decide) (index := 9) flX3_whereIs_9 rfl (v := .ref (ad (b + 1))) rfl dX3_whereIs_14 ?_
  refine lv_iload_n B.1 B.2.1 dX3_whereIs_17 rfl (lv_at hl 1 rfl) ?_
  refine r_cald B hC (i := b + 1) (by omega) h1 (j := t) (by omega) (by decide) dX3_whereIs_18 ?_
  refine r_tI (y := nI (wh w t)) rfl ?_
  refine lv_goto (tgt := 25) B.1 B.2.1 dX3_whereIs_19 (by decide) ?_
  exact r_eI B hC (v := nI (wh w t)) (⟨rfl, rfl⟩) dX3_whereIs_25
theorem iwX3_lengthOf_X3 : ∀ w ∈ u_ws RX3 TX3 6, w ∈ wsX3_lengthOf := by decide +kernel
theorem flX3_lengthOf_15 : Cond.fieldLink RX3 15 RX3 (TX3 1).2.1 (TX3 1).2.2.1 ∈ wsX3_lengthOf := by decide +kernel
set_option maxHeartbeats 4000000 in
set_option maxRecDepth 100000 in
theorem ctX3_lengthOf (l : Launch) (g : Gx) (lo : Nat) (ad : Nat → Nat) {F : Nat → va_E} {b : Nat} {w : LV} (hb : 8 ≤ b ∧ b + 5 ≤ 196) (hL : LoadC g ad F b w) {t : Nat} (ht : t < 10) : MI l g lo 196 ad yX3_lengthOf wsX3_lengthOf 0 0 [.ref (ad (b)), .int (nI t)] F (fun r F' => r = nI (ln w t) ∧ F' = F) := by
  obtain ⟨h0, h1, h2, h3, h4⟩ := hL
  refine enter (cc := cX3_lengthOf) (maxL := 2) (ret := some .int) (own := RX3) (by decide +kernel) rfl rfl (Nat.le_of_ble_eq_true rfl) ?_
  intro pp ee ss mm below meth cc B hini hC ls hl
  have hl : lv_has ls 2 [(0, .ref (ad (b))), (1, .int (nI t))] := hl
  refine lv_iload_n B.1 B.2.1 dX3_lengthOf_0 rfl (lv_at hl 1 rfl) ?_
  refine lv_if_lt (tgt := 22) B.1 B.2.1 dX3_lengthOf_1 (by decide) (fun z => absurd z (nI_pos (by omega))) (fun _ => ?_)
  refine lv_iload_n B.1 B.2.1 dX3_lengthOf_4 rfl (lv_at hl 1 rfl) ?_
  refine lv_aload_n B.1 B.2.1 dX3_lengthOf_5 rfl (lv_at hl 0 rfl) ?_
  refine r_cg B hC (i := b) (by omega) h0 (C := RX3) (T := TX3) (n := 6) rfl iwX3_lengthOf_X3 1 (by decide) (index := 15) flX3_lengthOf_15 rfl (v := .ref (ad (b + 2))) rfl dX3_lengthOf_6 ?_
  refine r_calen B hC (i := b + 2) (by omega) h2 0 rfl (n := 10) rfl dX3_lengthOf_9 ?_
  refine lv_icmp_ge (tgt := 22) B.1 B.2.1 dX3_lengthOf_10 (by decide) (fun z => absurd z (nI_ge (by omega) (by omega))) (fun _ => ?_)
  refine lv_aload_n B.1 B.2.1 dX3_lengthOf_13 rfl (lv_at hl 0 rfl) ?_
  refine r_cg B hC (i := b) (by omega) h0 (C := RX3) (T := TX3) (n := 6) rfl iwX3_lengthOf_X3 1 (by decide) (index := 15) flX3_lengthOf_15 rfl (v := .ref (ad (b + 2))) rfl dX3_lengthOf_14 ?_
  refine lv_iload_n B.1 B.2.1 dX3_lengthOf_17 rfl (lv_at hl 1 rfl) ?_
  refine r_cald B hC (i := b + 2) (by omega) h2 (j := t) (by omega) (by decide) dX3_lengthOf_18 ?_
  refine r_tI (y := nI (ln w t)) rfl ?_
  refine lv_goto (tgt := 23) B.1 B.2.1 dX3_lengthOf_19 (by decide) ?_
  exact r_eI B hC (v := nI (ln w t)) (⟨rfl, rfl⟩) dX3_lengthOf_23
theorem iwX3_timberIn_X3 : ∀ w ∈ u_ws RX3 TX3 6, w ∈ wsX3_timberIn := by decide +kernel
theorem flX3_timberIn_21 : Cond.fieldLink RX3 21 RX3 (TX3 3).2.1 (TX3 3).2.2.1 ∈ wsX3_timberIn := by decide +kernel
set_option maxHeartbeats 4000000 in
set_option maxRecDepth 100000 in
theorem ctX3_timberIn (l : Launch) (g : Gx) (lo : Nat) (ad : Nat → Nat) {F : Nat → va_E} {b : Nat} {w : LV} (hb : 8 ≤ b ∧ b + 5 ≤ 196) (hL : LoadC g ad F b w) {t : Nat} (ht : t < 10) : MI l g lo 196 ad yX3_timberIn wsX3_timberIn 0 0 [.ref (ad (b)), .int (nI t)] F (fun r F' => r = oI (ti w t) ∧ F' = F) := by
  obtain ⟨h0, h1, h2, h3, h4⟩ := hL
  refine enter (cc := cX3_timberIn) (maxL := 2) (ret := some .int) (own := RX3) (by decide +kernel) rfl rfl (Nat.le_of_ble_eq_true rfl) ?_
  intro pp ee ss mm below meth cc B hini hC ls hl
  have hl : lv_has ls 2 [(0, .ref (ad (b))), (1, .int (nI t))] := hl
  refine lv_iload_n B.1 B.2.1 dX3_timberIn_0 rfl (lv_at hl 1 rfl) ?_
  refine lv_if_lt (tgt := 22) B.1 B.2.1 dX3_timberIn_1 (by decide) (fun z => absurd z (nI_pos (by omega))) (fun _ => ?_)
  refine lv_iload_n B.1 B.2.1 dX3_timberIn_4 rfl (lv_at hl 1 rfl) ?_
  refine lv_aload_n B.1 B.2.1 dX3_timberIn_5 rfl (lv_at hl 0 rfl) ?_
  refine r_cg B hC (i := b) (by omega) h0 (C := RX3) (T := TX3) (n := 6) rfl iwX3_timberIn_X3 3 (by decide) (index := 21) flX3_timberIn_21 rfl (v := .ref (ad (b + 4))) rfl dX3_timberIn_6 ?_
  refine r_calen B hC (i := b + 4) (by omega) h4 0 rfl (n := 10) rfl dX3_timberIn_9 ?_
  refine lv_icmp_ge (tgt := 22) B.1 B.2.1 dX3_timberIn_10 (by decide) (fun z => absurd z (nI_ge (by omega) (by omega))) (fun _ => ?_)
  refine lv_aload_n B.1 B.2.1 dX3_timberIn_13 rfl (lv_at hl 0 rfl) ?_
  refine r_cg B hC (i := b) (by omega) h0 (C := RX3) (T := TX3) (n := 6) rfl iwX3_timberIn_X3 3 (by decide) (index := 21) flX3_timberIn_21 rfl (v := .ref (ad (b + 4))) rfl dX3_timberIn_14 ?_
  refine lv_iload_n B.1 B.2.1 dX3_timberIn_17 rfl (lv_at hl 1 rfl) ?_
  refine r_cald B hC (i := b + 4) (by omega) h4 (j := t) (by omega) (by decide) dX3_timberIn_18 ?_
  refine r_tI (y := oI (ti w t)) rfl ?_
  refine lv_goto (tgt := 24) B.1 B.2.1 dX3_timberIn_19 (by decide) ?_
  exact r_eI B hC (v := oI (ti w t)) (⟨rfl, rfl⟩) dX3_timberIn_24
theorem iwX3_wormsIn_X3 : ∀ w ∈ u_ws RX3 TX3 6, w ∈ wsX3_wormsIn := by decide +kernel
theorem flX3_wormsIn_18 : Cond.fieldLink RX3 18 RX3 (TX3 2).2.1 (TX3 2).2.2.1 ∈ wsX3_wormsIn := by decide +kernel
set_option maxHeartbeats 4000000 in
set_option maxRecDepth 100000 in
theorem ctX3_wormsIn_some (l : Launch) (g : Gx) (lo : Nat) (ad : Nat → Nat) {F : Nat → va_E} {b : Nat} {w : LV} (hb : 8 ≤ b ∧ b + 5 ≤ 196) (hL : LoadC g ad F b w) {t : Nat} (ht : t < 10) : MI l g lo 196 ad yX3_wormsIn wsX3_wormsIn 0 0 [.ref (ad (b)), .int (nI t)] F (fun r F' => r = nI (wo w t) ∧ F' = F) := by
  obtain ⟨h0, h1, h2, h3, h4⟩ := hL
  refine enter (cc := cX3_wormsIn) (maxL := 2) (ret := some .int) (own := RX3) (by decide +kernel) rfl rfl (Nat.le_of_ble_eq_true rfl) ?_
  intro pp ee ss mm below meth cc B hini hC ls hl
  have hl : lv_has ls 2 [(0, .ref (ad (b))), (1, .int (nI t))] := hl
  refine lv_iload_n B.1 B.2.1 dX3_wormsIn_0 rfl (lv_at hl 1 rfl) ?_
  refine lv_if_lt (tgt := 22) B.1 B.2.1 dX3_wormsIn_1 (by decide) (fun z => absurd z (nI_pos (by omega))) (fun _ => ?_)
  refine lv_iload_n B.1 B.2.1 dX3_wormsIn_4 rfl (lv_at hl 1 rfl) ?_
  refine lv_aload_n B.1 B.2.1 dX3_wormsIn_5 rfl (lv_at hl 0 rfl) ?_
  refine r_cg B hC (i := b) (by omega) h0 (C := RX3) (T := TX3) (n := 6) rfl iwX3_wormsIn_X3 2 (by decide) (index := 18) flX3_wormsIn_18 rfl (v := .ref (ad (b + 3))) rfl dX3_wormsIn_6 ?_
  refine r_calen B hC (i := b + 3) (by omega) h3 0 rfl (n := 10) rfl dX3_wormsIn_9 ?_
  refine lv_icmp_ge (tgt := 22) B.1 B.2.1 dX3_wormsIn_10 (by decide) (fun z => absurd z (nI_ge (by omega) (by omega))) (fun _ => ?_)
  refine lv_aload_n B.1 B.2.1 dX3_wormsIn_13 rfl (lv_at hl 0 rfl) ?_
  refine r_cg B hC (i := b) (by omega) h0 (C := RX3) (T := TX3) (n := 6) rfl iwX3_wormsIn_X3 2 (by decide) (index := 18) flX3_wormsIn_18 rfl (v := .ref (ad (b + 3))) rfl dX3_wormsIn_14 ?_
  refine lv_iload_n B.1 B.2.1 dX3_wormsIn_17 rfl (lv_at hl 1 rfl) ?_
  refine r_cald B hC (i := b + 3) (by omega) h3 (j := t) (by omega) (by decide) dX3_wormsIn_18 ?_
  refine r_tI (y := nI (wo w t)) rfl ?_
  refine lv_goto (tgt := 23) B.1 B.2.1 dX3_wormsIn_19 (by decide) ?_
  exact r_eI B hC (v := nI (wo w t)) (⟨rfl, rfl⟩) dX3_wormsIn_23
set_option maxHeartbeats 4000000 in
set_option maxRecDepth 100000 in
theorem ctX3_wormsIn_none (l : Launch) (g : Gx) (lo : Nat) (ad : Nat → Nat) {F : Nat → va_E} {b : Nat} {w : LV} (hb : 8 ≤ b ∧ b + 5 ≤ 196) (hL : LoadC g ad F b w) : MI l g lo 196 ad yX3_wormsIn wsX3_wormsIn 0 0 [.ref (ad (b)), .int ((-9))] F (fun r F' => r = nI 0 ∧ F' = F) := by
  obtain ⟨h0, h1, h2, h3, h4⟩ := hL
  refine enter (cc := cX3_wormsIn) (maxL := 2) (ret := some .int) (own := RX3) (by decide +kernel) rfl rfl (Nat.le_of_ble_eq_true rfl) ?_
  intro pp ee ss mm below meth cc B hini hC ls hl
  have hl : lv_has ls 2 [(0, .ref (ad (b))), (1, .int ((-9)))] := hl
  refine lv_iload_n B.1 B.2.1 dX3_wormsIn_0 rfl (lv_at hl 1 rfl) ?_
  refine lv_if_lt (tgt := 22) B.1 B.2.1 dX3_wormsIn_1 (by decide) (fun _ => ?_) (fun z => absurd ((by decide)) z)
  refine lv_iconst (v := nI 0) B.1 B.2.1 dX3_wormsIn_22 (by decide) ?_
  exact r_eI B hC (v := nI 0) (⟨rfl, rfl⟩) dX3_wormsIn_23
theorem iwX3_isOpen_X3 : ∀ w ∈ u_ws RX3 TX3 6, w ∈ wsX3_isOpen := by decide +kernel
theorem flX3_isOpen_21 : Cond.fieldLink RX3 21 RX3 (TX3 3).2.1 (TX3 3).2.2.1 ∈ wsX3_isOpen := by decide +kernel
set_option maxHeartbeats 4000000 in
set_option maxRecDepth 100000 in
theorem ctX3_isOpen (l : Launch) (g : Gx) (lo : Nat) (ad : Nat → Nat) {F : Nat → va_E} {b : Nat} {w : LV} (hb : 8 ≤ b ∧ b + 5 ≤ 196) (hL : LoadC g ad F b w) {t : Nat} (ht : t < 10) (hB : ∀ k, ti w t = some k → k < 10) : MI l g lo 196 ad yX3_isOpen wsX3_isOpen 0 0 [.ref (ad (b)), .int (nI t)] F (fun r F' => r = bI (ti w t).isNone ∧ F' = F) := by
  obtain ⟨h0, h1, h2, h3, h4⟩ := hL
  refine enter (cc := cX3_isOpen) (maxL := 2) (ret := some .boolean) (own := RX3) (by decide +kernel) rfl rfl (Nat.le_of_ble_eq_true rfl) ?_
  intro pp ee ss mm below meth cc B hini hC ls hl
  have hl : lv_has ls 2 [(0, .ref (ad (b))), (1, .int (nI t))] := hl
  refine lv_iload_n B.1 B.2.1 dX3_isOpen_0 rfl (lv_at hl 1 rfl) ?_
  refine lv_if_lt (tgt := 24) B.1 B.2.1 dX3_isOpen_1 (by decide) (fun z => absurd z (nI_pos (by omega))) (fun _ => ?_)
  refine lv_iload_n B.1 B.2.1 dX3_isOpen_4 rfl (lv_at hl 1 rfl) ?_
  refine lv_aload_n B.1 B.2.1 dX3_isOpen_5 rfl (lv_at hl 0 rfl) ?_
  refine r_cg B hC (i := b) (by omega) h0 (C := RX3) (T := TX3) (n := 6) rfl iwX3_isOpen_X3 3 (by decide) (index := 21) flX3_isOpen_21 rfl (v := .ref (ad (b + 4))) rfl dX3_isOpen_6 ?_
  refine r_calen B hC (i := b + 4) (by omega) h4 0 rfl (n := 10) rfl dX3_isOpen_9 ?_
  refine lv_icmp_ge (tgt := 24) B.1 B.2.1 dX3_isOpen_10 (by decide) (fun z => absurd z (nI_ge (by omega) (by omega))) (fun _ => ?_)
  refine lv_aload_n B.1 B.2.1 dX3_isOpen_13 rfl (lv_at hl 0 rfl) ?_
  refine r_cg B hC (i := b) (by omega) h0 (C := RX3) (T := TX3) (n := 6) rfl iwX3_isOpen_X3 3 (by decide) (index := 21) flX3_isOpen_21 rfl (v := .ref (ad (b + 4))) rfl dX3_isOpen_14 ?_
  refine lv_iload_n B.1 B.2.1 dX3_isOpen_17 rfl (lv_at hl 1 rfl) ?_
  refine r_cald B hC (i := b + 4) (by omega) h4 (j := t) (by omega) (by decide) dX3_isOpen_18 ?_
  refine r_tI (y := oI (ti w t)) rfl ?_
  refine lv_bipush (v := (-9)) B.1 B.2.1 dX3_isOpen_19 (by decide) ?_
  refine lv_icmp_ne (tgt := 28) B.1 B.2.1 dX3_isOpen_21 (by decide) (fun c_21 => ?_) (fun c_21 => ?_)
  · have q := fun z => c_21 ((oI_9 (fun k hk => Nat.lt_trans (hB k hk) (by decide))).mpr z)
    refine lv_iconst (v := nI 0) B.1 B.2.1 dX3_isOpen_28 (by decide) ?_
    exact r_eZ B hC (v := nI 0) (rfl) (⟨by cases hh : ti w t <;> first | rfl | exact absurd hh q, rfl⟩) dX3_isOpen_29
  · have q := (oI_9 (fun k hk => Nat.lt_trans (hB k hk) (by decide))).mp c_21
    refine lv_iconst (v := nI 1) B.1 B.2.1 dX3_isOpen_24 (by decide) ?_
    refine lv_goto (tgt := 29) B.1 B.2.1 dX3_isOpen_25 (by decide) ?_
    exact r_eZ B hC (v := nI 1) (rfl) (⟨by rw [q]; rfl, rfl⟩) dX3_isOpen_29
theorem iwX3_waterInside_X3 : ∀ w ∈ u_ws RX3 TX3 6, w ∈ wsX3_waterInside := by decide +kernel
theorem flX3_waterInside_24 : Cond.fieldLink RX3 24 RX3 (TX3 4).2.1 (TX3 4).2.2.1 ∈ wsX3_waterInside := by decide +kernel
set_option maxHeartbeats 4000000 in
set_option maxRecDepth 100000 in
theorem ctX3_waterInside (l : Launch) (g : Gx) (lo : Nat) (ad : Nat → Nat) {F : Nat → va_E} {b : Nat} {w : LV} (hb : 8 ≤ b ∧ b + 5 ≤ 196) (hL : LoadC g ad F b w) : MI l g lo 196 ad yX3_waterInside wsX3_waterInside 0 0 [.ref (ad (b))] F (fun r F' => r = nI (wa w) ∧ F' = F) := by
  obtain ⟨h0, h1, h2, h3, h4⟩ := hL
  refine enter (cc := cX3_waterInside) (maxL := 1) (ret := some .int) (own := RX3) (by decide +kernel) rfl rfl (Nat.le_of_ble_eq_true rfl) ?_
  intro pp ee ss mm below meth cc B hini hC ls hl
  have hl : lv_has ls 1 [(0, .ref (ad (b)))] := hl
  refine lv_aload_n B.1 B.2.1 dX3_waterInside_0 rfl (lv_at hl 0 rfl) ?_
  refine r_cg B hC (i := b) (by omega) h0 (C := RX3) (T := TX3) (n := 6) rfl iwX3_waterInside_X3 4 (by decide) (index := 24) flX3_waterInside_24 rfl (v := .int (nI (wa w))) rfl dX3_waterInside_1 ?_
  exact r_eI B hC (v := nI (wa w)) (⟨rfl, rfl⟩) dX3_waterInside_4
theorem iwX3_isSunk_X3 : ∀ w ∈ u_ws RX3 TX3 6, w ∈ wsX3_isSunk := by decide +kernel
theorem flX3_isSunk_28 : Cond.fieldLink RX3 28 RX3 (TX3 5).2.1 (TX3 5).2.2.1 ∈ wsX3_isSunk := by decide +kernel
set_option maxHeartbeats 4000000 in
set_option maxRecDepth 100000 in
theorem ctX3_isSunk (l : Launch) (g : Gx) (lo : Nat) (ad : Nat → Nat) {F : Nat → va_E} {b : Nat} {w : LV} (hb : 8 ≤ b ∧ b + 5 ≤ 196) (hL : LoadC g ad F b w) : MI l g lo 196 ad yX3_isSunk wsX3_isSunk 0 0 [.ref (ad (b))] F (fun r F' => r = bI (su w) ∧ F' = F) := by
  obtain ⟨h0, h1, h2, h3, h4⟩ := hL
  refine enter (cc := cX3_isSunk) (maxL := 1) (ret := some .boolean) (own := RX3) (by decide +kernel) rfl rfl (Nat.le_of_ble_eq_true rfl) ?_
  intro pp ee ss mm below meth cc B hini hC ls hl
  have hl : lv_has ls 1 [(0, .ref (ad (b)))] := hl
  refine lv_aload_n B.1 B.2.1 dX3_isSunk_0 rfl (lv_at hl 0 rfl) ?_
  refine r_cg B hC (i := b) (by omega) h0 (C := RX3) (T := TX3) (n := 6) rfl iwX3_isSunk_X3 5 (by decide) (index := 28) flX3_isSunk_28 rfl (v := .int (bI (su w))) rfl dX3_isSunk_1 ?_
  exact r_eZ B hC (v := bI (su w)) (nar_b _) (⟨rfl, rfl⟩) dX3_isSunk_4
def cutV (w : LV) (t x : Nat) : LV := (wh w, va_up (ln w) t x, wo w, ti w, wa w, su w)
theorem iwX3_cutTo_X3 : ∀ w ∈ u_ws RX3 TX3 6, w ∈ wsX3_cutTo := by decide +kernel
theorem flX3_cutTo_15 : Cond.fieldLink RX3 15 RX3 (TX3 1).2.1 (TX3 1).2.2.1 ∈ wsX3_cutTo := by decide +kernel
set_option maxHeartbeats 4000000 in
set_option maxRecDepth 100000 in
theorem ctX3_cutTo (l : Launch) (g : Gx) (lo : Nat) (ad : Nat → Nat) {F : Nat → va_E} {b : Nat} {w : LV} (hb : 8 ≤ b ∧ b + 5 ≤ 196) (hL : LoadC g ad F b w) {t x : Nat} (ht : t < 10) : MV l g lo 196 ad yX3_cutTo wsX3_cutTo 0 0 [.ref (ad (b)), .int (nI t), .int (nI x)] F (fun F' => LoadC g ad F' b (cutV w t x) ∧ Same b (b + 5) F F') := by
  obtain ⟨h0, h1, h2, h3, h4⟩ := hL
  refine enter (cc := cX3_cutTo) (maxL := 3) (ret := none) (own := RX3) (by decide +kernel) rfl rfl (Nat.le_of_ble_eq_true rfl) ?_
  intro pp ee ss mm below meth cc B hini hC ls hl
  have hl : lv_has ls 3 [(0, .ref (ad (b))), (1, .int (nI t)), (2, .int (nI x))] := hl
  refine lv_iload_n B.1 B.2.1 dX3_cutTo_0 rfl (lv_at hl 1 rfl) ?_
  refine lv_if_lt (tgt := 20) B.1 B.2.1 dX3_cutTo_1 (by decide) (fun z => absurd z (nI_pos (by omega))) (fun _ => ?_)
  refine lv_iload_n B.1 B.2.1 dX3_cutTo_4 rfl (lv_at hl 1 rfl) ?_
  refine lv_aload_n B.1 B.2.1 dX3_cutTo_5 rfl (lv_at hl 0 rfl) ?_
  refine r_cg B hC (i := b) (by omega) h0 (C := RX3) (T := TX3) (n := 6) rfl iwX3_cutTo_X3 1 (by decide) (index := 15) flX3_cutTo_15 rfl (v := .ref (ad (b + 2))) rfl dX3_cutTo_6 ?_
  refine r_calen B hC (i := b + 2) (by omega) h2 0 rfl (n := 10) rfl dX3_cutTo_9 ?_
  refine lv_icmp_ge (tgt := 20) B.1 B.2.1 dX3_cutTo_10 (by decide) (fun z => absurd z (nI_ge (by omega) (by omega))) (fun _ => ?_)
  refine lv_aload_n B.1 B.2.1 dX3_cutTo_13 rfl (lv_at hl 0 rfl) ?_
  refine r_cg B hC (i := b) (by omega) h0 (C := RX3) (T := TX3) (n := 6) rfl iwX3_cutTo_X3 1 (by decide) (index := 15) flX3_cutTo_15 rfl (v := .ref (ad (b + 2))) rfl dX3_cutTo_14 ?_
  refine lv_iload_n B.1 B.2.1 dX3_cutTo_17 rfl (lv_at hl 1 rfl) ?_
  refine lv_iload_n B.1 B.2.1 dX3_cutTo_18 rfl (lv_at hl 2 rfl) ?_
  refine r_cast B hC (i := b + 2) (by omega) h2 (j := t) (by omega) (by decide) dX3_cutTo_19 ?_
  intro H locs hC
  obtain ⟨F1, eF1⟩ : ∃ f : Nat → va_E, f = va_up F (b + 2) (.inl (g.2.2 0, 10, .inl (fun j => nI (va_up (ln w) t x j)))) := ⟨_, rfl⟩
  have hC : Cu g lo 196 ad F1 ss ss.heap H locs := by rw [eF1]; exact (by rw [← upd_nI (ln w) t x]; exact hC)
  have kb2_F1 : F1 (b + 2) = .inl (g.2.2 0, 10, .inl (fun j => nI (va_up (ln w) t x j))) := by rw [eF1]; exact va_up_self _ _ _
  have h0_F1 : F1 b = .inr (3, [.ref (ad (b + 1)), .ref (ad (b + 2)), .ref (ad (b + 3)), .ref (ad (b + 4)), .int (nI (wa w)), .int (bI (su w))]) := by rw [eF1, va_up_ne _ _ (by omega)]; exact h0
  have h1_F1 : F1 (b + 1) = .inl (g.2.2 0, 10, .inl (fun j => nI (wh w j))) := by rw [eF1, va_up_ne _ _ (by omega)]; exact h1
  have h3_F1 : F1 (b + 3) = .inl (g.2.2 0, 10, .inl (fun j => nI (wo w j))) := by rw [eF1, va_up_ne _ _ (by omega)]; exact h3
  have h4_F1 : F1 (b + 4) = .inl (g.2.2 0, 10, .inl (fun j => oI (ti w j))) := by rw [eF1, va_up_ne _ _ (by omega)]; exact h4
  exact r_eV B hC (⟨⟨h0_F1, h1_F1, kb2_F1, h3_F1, h4_F1⟩, (by rw [eF1]; exact Same.up Same.rf (by omega) (by omega))⟩) dX3_cutTo_20
def wormV (w : LV) (t : Nat) : LV := (wh w, ln w, va_up (wo w) t (wo w t + 1), ti w, wa w, su w)
theorem iwX3_addWorm_X3 : ∀ w ∈ u_ws RX3 TX3 6, w ∈ wsX3_addWorm := by decide +kernel
theorem flX3_addWorm_18 : Cond.fieldLink RX3 18 RX3 (TX3 2).2.1 (TX3 2).2.2.1 ∈ wsX3_addWorm := by decide +kernel
set_option maxHeartbeats 4000000 in
set_option maxRecDepth 100000 in
theorem ctX3_addWorm (l : Launch) (g : Gx) (lo : Nat) (ad : Nat → Nat) {F : Nat → va_E} {b : Nat} {w : LV} (hb : 8 ≤ b ∧ b + 5 ≤ 196) (hL : LoadC g ad F b w) {t : Nat} (ht : t < 10) : MV l g lo 196 ad yX3_addWorm wsX3_addWorm 0 0 [.ref (ad (b)), .int (nI t)] F (fun F' => LoadC g ad F' b (wormV w t) ∧ Same b (b + 5) F F') := by
  obtain ⟨h0, h1, h2, h3, h4⟩ := hL
  refine enter (cc := cX3_addWorm) (maxL := 2) (ret := none) (own := RX3) (by decide +kernel) rfl rfl (Nat.le_of_ble_eq_true rfl) ?_
  intro pp ee ss mm below meth cc B hini hC ls hl
  have hl : lv_has ls 2 [(0, .ref (ad (b))), (1, .int (nI t))] := hl
  refine lv_iload_n B.1 B.2.1 dX3_addWorm_0 rfl (lv_at hl 1 rfl) ?_
  refine lv_if_lt (tgt := 23) B.1 B.2.1 dX3_addWorm_1 (by decide) (fun z => absurd z (nI_pos (by omega))) (fun _ => ?_)
  refine lv_iload_n B.1 B.2.1 dX3_addWorm_4 rfl (lv_at hl 1 rfl) ?_
  refine lv_aload_n B.1 B.2.1 dX3_addWorm_5 rfl (lv_at hl 0 rfl) ?_
  refine r_cg B hC (i := b) (by omega) h0 (C := RX3) (T := TX3) (n := 6) rfl iwX3_addWorm_X3 2 (by decide) (index := 18) flX3_addWorm_18 rfl (v := .ref (ad (b + 3))) rfl dX3_addWorm_6 ?_
  refine r_calen B hC (i := b + 3) (by omega) h3 0 rfl (n := 10) rfl dX3_addWorm_9 ?_
  refine lv_icmp_ge (tgt := 23) B.1 B.2.1 dX3_addWorm_10 (by decide) (fun z => absurd z (nI_ge (by omega) (by omega))) (fun _ => ?_)
  refine lv_aload_n B.1 B.2.1 dX3_addWorm_13 rfl (lv_at hl 0 rfl) ?_
  refine r_cg B hC (i := b) (by omega) h0 (C := RX3) (T := TX3) (n := 6) rfl iwX3_addWorm_X3 2 (by decide) (index := 18) flX3_addWorm_18 rfl (v := .ref (ad (b + 3))) rfl dX3_addWorm_14 ?_
  refine lv_iload_n B.1 B.2.1 dX3_addWorm_17 rfl (lv_at hl 1 rfl) ?_
  refine lv_dup2_11 B.1 B.2.1 dX3_addWorm_18 rfl rfl ?_
  refine r_cald B hC (i := b + 3) (by omega) h3 (j := t) (by omega) (by decide) dX3_addWorm_19 ?_
  refine r_tI (y := nI (wo w t)) rfl ?_
  refine lv_iconst (v := nI 1) B.1 B.2.1 dX3_addWorm_20 (by decide) ?_
  refine lv_iadd B.1 B.2.1 dX3_addWorm_21 ?_
  refine r_tI (y := nI ((wo w t) + 1)) (nI_add _ _) ?_
  refine r_cast B hC (i := b + 3) (by omega) h3 (j := t) (by omega) (by decide) dX3_addWorm_22 ?_
  intro H locs hC
  obtain ⟨F1, eF1⟩ : ∃ f : Nat → va_E, f = va_up F (b + 3) (.inl (g.2.2 0, 10, .inl (fun j => nI (va_up (wo w) t (wo w t + 1) j)))) := ⟨_, rfl⟩
  have hC : Cu g lo 196 ad F1 ss ss.heap H locs := by rw [eF1]; exact (by rw [← upd_nI (wo w) t (wo w t + 1)]; exact hC)
  have kb3_F1 : F1 (b + 3) = .inl (g.2.2 0, 10, .inl (fun j => nI (va_up (wo w) t (wo w t + 1) j))) := by rw [eF1]; exact va_up_self _ _ _
  have h0_F1 : F1 b = .inr (3, [.ref (ad (b + 1)), .ref (ad (b + 2)), .ref (ad (b + 3)), .ref (ad (b + 4)), .int (nI (wa w)), .int (bI (su w))]) := by rw [eF1, va_up_ne _ _ (by omega)]; exact h0
  have h1_F1 : F1 (b + 1) = .inl (g.2.2 0, 10, .inl (fun j => nI (wh w j))) := by rw [eF1, va_up_ne _ _ (by omega)]; exact h1
  have h2_F1 : F1 (b + 2) = .inl (g.2.2 0, 10, .inl (fun j => nI (ln w j))) := by rw [eF1, va_up_ne _ _ (by omega)]; exact h2
  have h4_F1 : F1 (b + 4) = .inl (g.2.2 0, 10, .inl (fun j => oI (ti w j))) := by rw [eF1, va_up_ne _ _ (by omega)]; exact h4
  exact r_eV B hC (⟨⟨h0_F1, h1_F1, h2_F1, kb3_F1, h4_F1⟩, (by rw [eF1]; exact Same.up Same.rf (by omega) (by omega))⟩) dX3_addWorm_23
def waterV (w : LV) (x : Nat) : LV := (wh w, ln w, wo w, ti w, x, su w)
theorem iwX3_setWater_X3 : ∀ w ∈ u_ws RX3 TX3 6, w ∈ wsX3_setWater := by decide +kernel
theorem flX3_setWater_24 : Cond.fieldLink RX3 24 RX3 (TX3 4).2.1 (TX3 4).2.2.1 ∈ wsX3_setWater := by decide +kernel
set_option maxHeartbeats 4000000 in
set_option maxRecDepth 100000 in
theorem ctX3_setWater (l : Launch) (g : Gx) (lo : Nat) (ad : Nat → Nat) {F : Nat → va_E} {b : Nat} {w : LV} (hb : 8 ≤ b ∧ b + 5 ≤ 196) (hL : LoadC g ad F b w) {x : Nat} : MV l g lo 196 ad yX3_setWater wsX3_setWater 0 0 [.ref (ad (b)), .int (nI x)] F (fun F' => LoadC g ad F' b (waterV w x) ∧ Same b (b + 5) F F') := by
  obtain ⟨h0, h1, h2, h3, h4⟩ := hL
  refine enter (cc := cX3_setWater) (maxL := 2) (ret := none) (own := RX3) (by decide +kernel) rfl rfl (Nat.le_of_ble_eq_true rfl) ?_
  intro pp ee ss mm below meth cc B hini hC ls hl
  have hl : lv_has ls 2 [(0, .ref (ad (b))), (1, .int (nI x))] := hl
  refine lv_aload_n B.1 B.2.1 dX3_setWater_0 rfl (lv_at hl 0 rfl) ?_
  refine lv_iload_n B.1 B.2.1 dX3_setWater_1 rfl (lv_at hl 1 rfl) ?_
  refine r_cp B hC (i := b) (by omega) h0 tyX3 tyX3_ok nmX3 (C := RX3) (T := TX3) rfl iwX3_setWater_X3 4 (by decide) (index := 24) flX3_setWater_24 rfl rfl (v := .int (nI x)) (rfl) (rfl) (Nat.le_of_ble_eq_true rfl) dX3_setWater_2 ?_
  intro H locs hC
  obtain ⟨F1, eF1⟩ : ∃ f : Nat → va_E, f = va_up F (b) (.inr (3, [.ref (ad (b + 1)), .ref (ad (b + 2)), .ref (ad (b + 3)), .ref (ad (b + 4)), .int (nI x), .int (bI (su w))])) := ⟨_, rfl⟩
  have hC : Cu g lo 196 ad F1 ss ss.heap H locs := by rw [eF1]; exact hC
  have kb_F1 : F1 b = .inr (3, [.ref (ad (b + 1)), .ref (ad (b + 2)), .ref (ad (b + 3)), .ref (ad (b + 4)), .int (nI x), .int (bI (su w))]) := by rw [eF1]; exact va_up_self _ _ _
  have h1_F1 : F1 (b + 1) = .inl (g.2.2 0, 10, .inl (fun j => nI (wh w j))) := by rw [eF1, va_up_ne _ _ (by omega)]; exact h1
  have h2_F1 : F1 (b + 2) = .inl (g.2.2 0, 10, .inl (fun j => nI (ln w j))) := by rw [eF1, va_up_ne _ _ (by omega)]; exact h2
  have h3_F1 : F1 (b + 3) = .inl (g.2.2 0, 10, .inl (fun j => nI (wo w j))) := by rw [eF1, va_up_ne _ _ (by omega)]; exact h3
  have h4_F1 : F1 (b + 4) = .inl (g.2.2 0, 10, .inl (fun j => oI (ti w j))) := by rw [eF1, va_up_ne _ _ (by omega)]; exact h4
  exact r_eV B hC (⟨⟨kb_F1, h1_F1, h2_F1, h3_F1, h4_F1⟩, (by rw [eF1]; exact Same.up Same.rf (by omega) (by omega))⟩) dX3_setWater_5
def sinkV (w : LV) : LV := (wh w, ln w, wo w, ti w, wa w, true)
theorem iwX3_sink_X3 : ∀ w ∈ u_ws RX3 TX3 6, w ∈ wsX3_sink := by decide +kernel
theorem flX3_sink_28 : Cond.fieldLink RX3 28 RX3 (TX3 5).2.1 (TX3 5).2.2.1 ∈ wsX3_sink := by decide +kernel
set_option maxHeartbeats 4000000 in
set_option maxRecDepth 100000 in
theorem ctX3_sink (l : Launch) (g : Gx) (lo : Nat) (ad : Nat → Nat) {F : Nat → va_E} {b : Nat} {w : LV} (hb : 8 ≤ b ∧ b + 5 ≤ 196) (hL : LoadC g ad F b w) : MV l g lo 196 ad yX3_sink wsX3_sink 0 0 [.ref (ad (b))] F (fun F' => LoadC g ad F' b (sinkV w) ∧ Same b (b + 5) F F') := by
  obtain ⟨h0, h1, h2, h3, h4⟩ := hL
  refine enter (cc := cX3_sink) (maxL := 1) (ret := none) (own := RX3) (by decide +kernel) rfl rfl (Nat.le_of_ble_eq_true rfl) ?_
  intro pp ee ss mm below meth cc B hini hC ls hl
  have hl : lv_has ls 1 [(0, .ref (ad (b)))] := hl
  refine lv_aload_n B.1 B.2.1 dX3_sink_0 rfl (lv_at hl 0 rfl) ?_
  refine lv_iconst (v := nI 1) B.1 B.2.1 dX3_sink_1 (by decide) ?_
  refine r_cp B hC (i := b) (by omega) h0 tyX3 tyX3_ok nmX3 (C := RX3) (T := TX3) rfl iwX3_sink_X3 5 (by decide) (index := 28) flX3_sink_28 rfl rfl (v := .int (nI 1)) (rfl) (rfl) (Nat.le_of_ble_eq_true rfl) dX3_sink_2 ?_
  intro H locs hC
  obtain ⟨F1, eF1⟩ : ∃ f : Nat → va_E, f = va_up F (b) (.inr (3, [.ref (ad (b + 1)), .ref (ad (b + 2)), .ref (ad (b + 3)), .ref (ad (b + 4)), .int (nI (wa w)), .int (nI 1)])) := ⟨_, rfl⟩
  have hC : Cu g lo 196 ad F1 ss ss.heap H locs := by rw [eF1]; exact hC
  have kb_F1 : F1 b = .inr (3, [.ref (ad (b + 1)), .ref (ad (b + 2)), .ref (ad (b + 3)), .ref (ad (b + 4)), .int (nI (wa w)), .int (nI 1)]) := by rw [eF1]; exact va_up_self _ _ _
  have h1_F1 : F1 (b + 1) = .inl (g.2.2 0, 10, .inl (fun j => nI (wh w j))) := by rw [eF1, va_up_ne _ _ (by omega)]; exact h1
  have h2_F1 : F1 (b + 2) = .inl (g.2.2 0, 10, .inl (fun j => nI (ln w j))) := by rw [eF1, va_up_ne _ _ (by omega)]; exact h2
  have h3_F1 : F1 (b + 3) = .inl (g.2.2 0, 10, .inl (fun j => nI (wo w j))) := by rw [eF1, va_up_ne _ _ (by omega)]; exact h3
  have h4_F1 : F1 (b + 4) = .inl (g.2.2 0, 10, .inl (fun j => oI (ti w j))) := by rw [eF1, va_up_ne _ _ (by omega)]; exact h4
  exact r_eV B hC (⟨⟨kb_F1, h1_F1, h2_F1, h3_F1, h4_F1⟩, (by rw [eF1]; exact Same.up Same.rf (by omega) (by omega))⟩) dX3_sink_5
def bringT (w : LV) (t : Nat) : Nat → Option Nat := if wh w t < 10 then va_up (ti w) (wh w t) none else ti w
def bringV (w : LV) (t x : Nat) : LV := (va_up (wh w) t x, ln w, wo w, if x < 10 then va_up (bringT w t) x (some t) else bringT w t, wa w, su w)
theorem iwX3_bringTo_X3 : ∀ w ∈ u_ws RX3 TX3 6, w ∈ wsX3_bringTo := by decide +kernel
theorem flX3_bringTo_9 : Cond.fieldLink RX3 9 RX3 (TX3 0).2.1 (TX3 0).2.2.1 ∈ wsX3_bringTo := by decide +kernel
theorem flX3_bringTo_21 : Cond.fieldLink RX3 21 RX3 (TX3 3).2.1 (TX3 3).2.2.1 ∈ wsX3_bringTo := by decide +kernel
set_option maxHeartbeats 4000000 in
set_option maxRecDepth 100000 in
theorem ctX3_bringTo (l : Launch) (g : Gx) (lo : Nat) (ad : Nat → Nat) {F : Nat → va_E} {b : Nat} {w : LV} (hb : 8 ≤ b ∧ b + 5 ≤ 196) (hL : LoadC g ad F b w) {t x : Nat} (ht : t < 10) (hB : wh w t ≤ 200) (hx : x ≤ 200) : MV l g lo 196 ad yX3_bringTo wsX3_bringTo 0 0 [.ref (ad (b)), .int (nI t), .int (nI x)] F (fun F' => LoadC g ad F' b (bringV w t x) ∧ Same b (b + 5) F F') := by
  obtain ⟨h0, h1, h2, h3, h4⟩ := hL
  refine enter (cc := cX3_bringTo) (maxL := 4) (ret := none) (own := RX3) (by decide +kernel) rfl rfl (Nat.le_of_ble_eq_true rfl) ?_
  intro pp ee ss mm below meth cc B hini hC ls hl
  have hl : lv_has ls 4 [(0, .ref (ad (b))), (1, .int (nI t)), (2, .int (nI x))] := hl
  refine lv_iload_n B.1 B.2.1 dX3_bringTo_0 rfl (lv_at hl 1 rfl) ?_
  refine lv_if_lt (tgt := 13) B.1 B.2.1 dX3_bringTo_1 (by decide) (fun z => absurd z (nI_pos (by omega))) (fun _ => ?_)
  refine lv_iload_n B.1 B.2.1 dX3_bringTo_4 rfl (lv_at hl 1 rfl) ?_
  refine lv_aload_n B.1 B.2.1 dX3_bringTo_5 rfl (lv_at hl 0 rfl) ?_
  refine r_cg B hC (i := b) (by omega) h0 (C := RX3) (T := TX3) (n := 6) rfl iwX3_bringTo_X3 0 (by decide) (index := 9) flX3_bringTo_9 rfl (v := .ref (ad (b + 1))) rfl dX3_bringTo_6 ?_
  refine r_calen B hC (i := b + 1) (by omega) h1 0 rfl (n := 10) rfl dX3_bringTo_9 ?_
  refine lv_icmp_lt (tgt := 14) B.1 B.2.1 dX3_bringTo_10 (by decide) (fun _ => ?_) (fun z => absurd (nI_lt (by omega) (by omega)) z)
  refine lv_aload_n B.1 B.2.1 dX3_bringTo_14 rfl (lv_at hl 0 rfl) ?_
  refine r_cg B hC (i := b) (by omega) h0 (C := RX3) (T := TX3) (n := 6) rfl iwX3_bringTo_X3 0 (by decide) (index := 9) flX3_bringTo_9 rfl (v := .ref (ad (b + 1))) rfl dX3_bringTo_15 ?_
  refine lv_iload_n B.1 B.2.1 dX3_bringTo_18 rfl (lv_at hl 1 rfl) ?_
  refine r_cald B hC (i := b + 1) (by omega) h1 (j := t) (by omega) (by decide) dX3_bringTo_19 ?_
  refine r_tI (y := nI (wh w t)) rfl ?_
  refine lv_istore_n (lv' := [(3, .int (nI (wh w t))), (0, .ref (ad (b))), (1, .int (nI t)), (2, .int (nI x))]) B.1 B.2.1 dX3_bringTo_20 rfl hl (by decide) rfl (fun ls hl => ?_)
  refine lv_iload_n B.1 B.2.1 dX3_bringTo_21 rfl (lv_at hl 0 rfl) ?_
  refine lv_if_lt (tgt := 42) B.1 B.2.1 dX3_bringTo_22 (by decide) (fun z => absurd z (nI_pos (by omega))) (fun _ => ?_)
  refine lv_iload_n B.1 B.2.1 dX3_bringTo_25 rfl (lv_at hl 0 rfl) ?_
  refine lv_aload_n B.1 B.2.1 dX3_bringTo_26 rfl (lv_at hl 1 rfl) ?_
  refine r_cg B hC (i := b) (by omega) h0 (C := RX3) (T := TX3) (n := 6) rfl iwX3_bringTo_X3 3 (by decide) (index := 21) flX3_bringTo_21 rfl (v := .ref (ad (b + 4))) rfl dX3_bringTo_27 ?_
  refine r_calen B hC (i := b + 4) (by omega) h4 0 rfl (n := 10) rfl dX3_bringTo_30 ?_
  refine lv_icmp_ge (tgt := 42) B.1 B.2.1 dX3_bringTo_31 (by decide) (fun c_31 => ?_) (fun c_31 => ?_)
  · have q_31 : 10 ≤ (wh w t) := (nI_leI (by omega) (by omega)).mp c_31
    refine lv_aload_n B.1 B.2.1 dX3_bringTo_42 rfl (lv_at hl 1 rfl) ?_
    refine r_cg B hC (i := b) (by omega) h0 (C := RX3) (T := TX3) (n := 6) rfl iwX3_bringTo_X3 0 (by decide) (index := 9) flX3_bringTo_9 rfl (v := .ref (ad (b + 1))) rfl dX3_bringTo_43 ?_
    refine lv_iload_n B.1 B.2.1 dX3_bringTo_46 rfl (lv_at hl 2 rfl) ?_
    refine lv_iload_n B.1 B.2.1 dX3_bringTo_47 rfl (lv_at hl 3 rfl) ?_
    refine r_cast B hC (i := b + 1) (by omega) h1 (j := t) (by omega) (by decide) dX3_bringTo_48 ?_
    intro H locs hC
    obtain ⟨F1, eF1⟩ : ∃ f : Nat → va_E, f = va_up F (b + 1) (.inl (g.2.2 0, 10, .inl (fun j => nI (va_up (wh w) t x j)))) := ⟨_, rfl⟩
    have hC : Cu g lo 196 ad F1 ss ss.heap H locs := by rw [eF1]; exact (by rw [← upd_nI (wh w) t x]; exact hC)
    have kb1_F1 : F1 (b + 1) = .inl (g.2.2 0, 10, .inl (fun j => nI (va_up (wh w) t x j))) := by rw [eF1]; exact va_up_self _ _ _
    have h0_F1 : F1 b = .inr (3, [.ref (ad (b + 1)), .ref (ad (b + 2)), .ref (ad (b + 3)), .ref (ad (b + 4)), .int (nI (wa w)), .int (bI (su w))]) := by rw [eF1, va_up_ne _ _ (by omega)]; exact h0
    have h2_F1 : F1 (b + 2) = .inl (g.2.2 0, 10, .inl (fun j => nI (ln w j))) := by rw [eF1, va_up_ne _ _ (by omega)]; exact h2
    have h3_F1 : F1 (b + 3) = .inl (g.2.2 0, 10, .inl (fun j => nI (wo w j))) := by rw [eF1, va_up_ne _ _ (by omega)]; exact h3
    have h4_F1 : F1 (b + 4) = .inl (g.2.2 0, 10, .inl (fun j => oI (ti w j))) := by rw [eF1, va_up_ne _ _ (by omega)]; exact h4
    refine lv_iload_n B.1 B.2.1 dX3_bringTo_49 rfl (lv_at hl 3 rfl) ?_
    refine lv_if_lt (tgt := 69) B.1 B.2.1 dX3_bringTo_50 (by decide) (fun z => absurd z (nI_pos (by omega))) (fun _ => ?_)
    refine lv_iload_n B.1 B.2.1 dX3_bringTo_53 rfl (lv_at hl 3 rfl) ?_
    refine lv_aload_n B.1 B.2.1 dX3_bringTo_54 rfl (lv_at hl 1 rfl) ?_
    refine r_cg B hC (i := b) (by omega) h0_F1 (C := RX3) (T := TX3) (n := 6) rfl iwX3_bringTo_X3 3 (by decide) (index := 21) flX3_bringTo_21 rfl (v := .ref (ad (b + 4))) rfl dX3_bringTo_55 ?_
    refine r_calen B hC (i := b + 4) (by omega) h4_F1 0 rfl (n := 10) rfl dX3_bringTo_58 ?_
    refine lv_icmp_ge (tgt := 69) B.1 B.2.1 dX3_bringTo_59 (by decide) (fun c_59 => ?_) (fun c_59 => ?_)
    · have q_59 : 10 ≤ x := (nI_leI (by omega) (by omega)).mp c_59
      exact r_eV B hC (by
    have hv : bringV w t x = (va_up (wh w) t x, ln w, wo w, ti w, wa w, su w) := by
      simp only [bringV, bringT]
      repeat' split
      all_goals first | rfl | (exfalso; omega)
    rw [hv]
    exact ⟨⟨h0_F1, kb1_F1, h2_F1, h3_F1, h4_F1⟩, (by rw [eF1]; exact Same.up Same.rf (by omega) (by omega))⟩) dX3_bringTo_69
    · have q_59 : ¬ 10 ≤ x := fun z => c_59 ((nI_leI (by omega) (by omega)).mpr z)
      refine lv_aload_n B.1 B.2.1 dX3_bringTo_62 rfl (lv_at hl 1 rfl) ?_
      refine r_cg B hC (i := b) (by omega) h0_F1 (C := RX3) (T := TX3) (n := 6) rfl iwX3_bringTo_X3 3 (by decide) (index := 21) flX3_bringTo_21 rfl (v := .ref (ad (b + 4))) rfl dX3_bringTo_63 ?_
      refine lv_iload_n B.1 B.2.1 dX3_bringTo_66 rfl (lv_at hl 3 rfl) ?_
      refine lv_iload_n B.1 B.2.1 dX3_bringTo_67 rfl (lv_at hl 2 rfl) ?_
      refine r_cast B hC (i := b + 4) (by omega) h4_F1 (j := x) (by omega) (by decide) dX3_bringTo_68 ?_
      intro H locs hC
      obtain ⟨F2, eF2⟩ : ∃ f : Nat → va_E, f = va_up F1 (b + 4) (.inl (g.2.2 0, 10, .inl (fun j => oI (va_up (ti w) x (some t) j)))) := ⟨_, rfl⟩
      have hC : Cu g lo 196 ad F2 ss ss.heap H locs := by rw [eF2]; exact (by rw [← upd_oI (ti w) x (some t)]; exact hC)
      have kb4_F2 : F2 (b + 4) = .inl (g.2.2 0, 10, .inl (fun j => oI (va_up (ti w) x (some t) j))) := by rw [eF2]; exact va_up_self _ _ _
      have h0_F2 : F2 b = .inr (3, [.ref (ad (b + 1)), .ref (ad (b + 2)), .ref (ad (b + 3)), .ref (ad (b + 4)), .int (nI (wa w)), .int (bI (su w))]) := by rw [eF2, va_up_ne _ _ (by omega)]; exact h0_F1
      have h2_F2 : F2 (b + 2) = .inl (g.2.2 0, 10, .inl (fun j => nI (ln w j))) := by rw [eF2, va_up_ne _ _ (by omega)]; exact h2_F1
      have h3_F2 : F2 (b + 3) = .inl (g.2.2 0, 10, .inl (fun j => nI (wo w j))) := by rw [eF2, va_up_ne _ _ (by omega)]; exact h3_F1
      have kb1_F2 : F2 (b + 1) = .inl (g.2.2 0, 10, .inl (fun j => nI (va_up (wh w) t x j))) := by rw [eF2, va_up_ne _ _ (by omega)]; exact kb1_F1
      exact r_eV B hC (by
    have hv : bringV w t x = (va_up (wh w) t x, ln w, wo w, va_up (ti w) x (some t), wa w, su w) := by
      simp only [bringV, bringT]
      repeat' split
      all_goals first | rfl | (exfalso; omega)
    rw [hv]
    exact ⟨⟨h0_F2, kb1_F2, h2_F2, h3_F2, kb4_F2⟩, (by rw [eF2]; exact Same.up (by rw [eF1]; exact Same.up Same.rf (by omega) (by omega)) (by omega) (by omega))⟩) dX3_bringTo_69
  · have q_31 : ¬ 10 ≤ (wh w t) := fun z => c_31 ((nI_leI (by omega) (by omega)).mpr z)
    refine lv_aload_n B.1 B.2.1 dX3_bringTo_34 rfl (lv_at hl 1 rfl) ?_
    refine r_cg B hC (i := b) (by omega) h0 (C := RX3) (T := TX3) (n := 6) rfl iwX3_bringTo_X3 3 (by decide) (index := 21) flX3_bringTo_21 rfl (v := .ref (ad (b + 4))) rfl dX3_bringTo_35 ?_
    refine lv_iload_n B.1 B.2.1 dX3_bringTo_38 rfl (lv_at hl 0 rfl) ?_
    refine lv_bipush (v := (-9)) B.1 B.2.1 dX3_bringTo_39 (by decide) ?_
    refine r_cast B hC (i := b + 4) (by omega) h4 (j := (wh w t)) (by omega) (by decide) dX3_bringTo_41 ?_
    intro H locs hC
    obtain ⟨F1, eF1⟩ : ∃ f : Nat → va_E, f = va_up F (b + 4) (.inl (g.2.2 0, 10, .inl (fun j => oI (va_up (ti w) (wh w t) none j)))) := ⟨_, rfl⟩
    have hC : Cu g lo 196 ad F1 ss ss.heap H locs := by rw [eF1]; exact (by rw [← upd_oI (ti w) (wh w t) none]; exact hC)
    have kb4_F1 : F1 (b + 4) = .inl (g.2.2 0, 10, .inl (fun j => oI (va_up (ti w) (wh w t) none j))) := by rw [eF1]; exact va_up_self _ _ _
    have h0_F1 : F1 b = .inr (3, [.ref (ad (b + 1)), .ref (ad (b + 2)), .ref (ad (b + 3)), .ref (ad (b + 4)), .int (nI (wa w)), .int (bI (su w))]) := by rw [eF1, va_up_ne _ _ (by omega)]; exact h0
    have h1_F1 : F1 (b + 1) = .inl (g.2.2 0, 10, .inl (fun j => nI (wh w j))) := by rw [eF1, va_up_ne _ _ (by omega)]; exact h1
    have h2_F1 : F1 (b + 2) = .inl (g.2.2 0, 10, .inl (fun j => nI (ln w j))) := by rw [eF1, va_up_ne _ _ (by omega)]; exact h2
    have h3_F1 : F1 (b + 3) = .inl (g.2.2 0, 10, .inl (fun j => nI (wo w j))) := by rw [eF1, va_up_ne _ _ (by omega)]; exact h3
    refine lv_aload_n B.1 B.2.1 dX3_bringTo_42 rfl (lv_at hl 1 rfl) ?_
    refine r_cg B hC (i := b) (by omega) h0_F1 (C := RX3) (T := TX3) (n := 6) rfl iwX3_bringTo_X3 0 (by decide) (index := 9) flX3_bringTo_9 rfl (v := .ref (ad (b + 1))) rfl dX3_bringTo_43 ?_
    refine lv_iload_n B.1 B.2.1 dX3_bringTo_46 rfl (lv_at hl 2 rfl) ?_
    refine lv_iload_n B.1 B.2.1 dX3_bringTo_47 rfl (lv_at hl 3 rfl) ?_
    refine r_cast B hC (i := b + 1) (by omega) h1_F1 (j := t) (by omega) (by decide) dX3_bringTo_48 ?_
    intro H locs hC
    obtain ⟨F2, eF2⟩ : ∃ f : Nat → va_E, f = va_up F1 (b + 1) (.inl (g.2.2 0, 10, .inl (fun j => nI (va_up (wh w) t x j)))) := ⟨_, rfl⟩
    have hC : Cu g lo 196 ad F2 ss ss.heap H locs := by rw [eF2]; exact (by rw [← upd_nI (wh w) t x]; exact hC)
    have kb1_F2 : F2 (b + 1) = .inl (g.2.2 0, 10, .inl (fun j => nI (va_up (wh w) t x j))) := by rw [eF2]; exact va_up_self _ _ _
    have h0_F2 : F2 b = .inr (3, [.ref (ad (b + 1)), .ref (ad (b + 2)), .ref (ad (b + 3)), .ref (ad (b + 4)), .int (nI (wa w)), .int (bI (su w))]) := by rw [eF2, va_up_ne _ _ (by omega)]; exact h0_F1
    have h2_F2 : F2 (b + 2) = .inl (g.2.2 0, 10, .inl (fun j => nI (ln w j))) := by rw [eF2, va_up_ne _ _ (by omega)]; exact h2_F1
    have h3_F2 : F2 (b + 3) = .inl (g.2.2 0, 10, .inl (fun j => nI (wo w j))) := by rw [eF2, va_up_ne _ _ (by omega)]; exact h3_F1
    have kb4_F2 : F2 (b + 4) = .inl (g.2.2 0, 10, .inl (fun j => oI (va_up (ti w) (wh w t) none j))) := by rw [eF2, va_up_ne _ _ (by omega)]; exact kb4_F1
    refine lv_iload_n B.1 B.2.1 dX3_bringTo_49 rfl (lv_at hl 3 rfl) ?_
    refine lv_if_lt (tgt := 69) B.1 B.2.1 dX3_bringTo_50 (by decide) (fun z => absurd z (nI_pos (by omega))) (fun _ => ?_)
    refine lv_iload_n B.1 B.2.1 dX3_bringTo_53 rfl (lv_at hl 3 rfl) ?_
    refine lv_aload_n B.1 B.2.1 dX3_bringTo_54 rfl (lv_at hl 1 rfl) ?_
    refine r_cg B hC (i := b) (by omega) h0_F2 (C := RX3) (T := TX3) (n := 6) rfl iwX3_bringTo_X3 3 (by decide) (index := 21) flX3_bringTo_21 rfl (v := .ref (ad (b + 4))) rfl dX3_bringTo_55 ?_
    refine r_calen B hC (i := b + 4) (by omega) kb4_F2 0 rfl (n := 10) rfl dX3_bringTo_58 ?_
    refine lv_icmp_ge (tgt := 69) B.1 B.2.1 dX3_bringTo_59 (by decide) (fun c_59 => ?_) (fun c_59 => ?_)
    · have q_59 : 10 ≤ x := (nI_leI (by omega) (by omega)).mp c_59
      exact r_eV B hC (by
    have hv : bringV w t x = (va_up (wh w) t x, ln w, wo w, va_up (ti w) (wh w t) none, wa w, su w) := by
      simp only [bringV, bringT]
      repeat' split
      all_goals first | rfl | (exfalso; omega)
    rw [hv]
    exact ⟨⟨h0_F2, kb1_F2, h2_F2, h3_F2, kb4_F2⟩, (by rw [eF2]; exact Same.up (by rw [eF1]; exact Same.up Same.rf (by omega) (by omega)) (by omega) (by omega))⟩) dX3_bringTo_69
    · have q_59 : ¬ 10 ≤ x := fun z => c_59 ((nI_leI (by omega) (by omega)).mpr z)
      refine lv_aload_n B.1 B.2.1 dX3_bringTo_62 rfl (lv_at hl 1 rfl) ?_
      refine r_cg B hC (i := b) (by omega) h0_F2 (C := RX3) (T := TX3) (n := 6) rfl iwX3_bringTo_X3 3 (by decide) (index := 21) flX3_bringTo_21 rfl (v := .ref (ad (b + 4))) rfl dX3_bringTo_63 ?_
      refine lv_iload_n B.1 B.2.1 dX3_bringTo_66 rfl (lv_at hl 3 rfl) ?_
      refine lv_iload_n B.1 B.2.1 dX3_bringTo_67 rfl (lv_at hl 2 rfl) ?_
      refine r_cast B hC (i := b + 4) (by omega) kb4_F2 (j := x) (by omega) (by decide) dX3_bringTo_68 ?_
      intro H locs hC
      obtain ⟨F3, eF3⟩ : ∃ f : Nat → va_E, f = va_up F2 (b + 4) (.inl (g.2.2 0, 10, .inl (fun j => oI (va_up (va_up (ti w) (wh w t) none) x (some t) j)))) := ⟨_, rfl⟩
      have hC : Cu g lo 196 ad F3 ss ss.heap H locs := by rw [eF3]; exact (by rw [← upd_oI (va_up (ti w) (wh w t) none) x (some t)]; exact hC)
      have kb4_F3 : F3 (b + 4) = .inl (g.2.2 0, 10, .inl (fun j => oI (va_up (va_up (ti w) (wh w t) none) x (some t) j))) := by rw [eF3]; exact va_up_self _ _ _
      have h0_F3 : F3 b = .inr (3, [.ref (ad (b + 1)), .ref (ad (b + 2)), .ref (ad (b + 3)), .ref (ad (b + 4)), .int (nI (wa w)), .int (bI (su w))]) := by rw [eF3, va_up_ne _ _ (by omega)]; exact h0_F2
      have h2_F3 : F3 (b + 2) = .inl (g.2.2 0, 10, .inl (fun j => nI (ln w j))) := by rw [eF3, va_up_ne _ _ (by omega)]; exact h2_F2
      have h3_F3 : F3 (b + 3) = .inl (g.2.2 0, 10, .inl (fun j => nI (wo w j))) := by rw [eF3, va_up_ne _ _ (by omega)]; exact h3_F2
      have kb1_F3 : F3 (b + 1) = .inl (g.2.2 0, 10, .inl (fun j => nI (va_up (wh w) t x j))) := by rw [eF3, va_up_ne _ _ (by omega)]; exact kb1_F2
      exact r_eV B hC (by
    have hv : bringV w t x = (va_up (wh w) t x, ln w, wo w, va_up (va_up (ti w) (wh w t) none) x (some t), wa w, su w) := by
      simp only [bringV, bringT]
      repeat' split
      all_goals first | rfl | (exfalso; omega)
    rw [hv]
    exact ⟨⟨h0_F3, kb1_F3, h2_F3, h3_F3, kb4_F3⟩, (by rw [eF3]; exact Same.up (by rw [eF2]; exact Same.up (by rw [eF1]; exact Same.up Same.rf (by omega) (by omega)) (by omega) (by omega)) (by omega) (by omega))⟩) dX3_bringTo_69
theorem iwX3_copyFrom_X3 : ∀ w ∈ u_ws RX3 TX3 6, w ∈ wsX3_copyFrom := by decide +kernel
theorem flX3_copyFrom_9 : Cond.fieldLink RX3 9 RX3 (TX3 0).2.1 (TX3 0).2.2.1 ∈ wsX3_copyFrom := by decide +kernel
theorem flX3_copyFrom_15 : Cond.fieldLink RX3 15 RX3 (TX3 1).2.1 (TX3 1).2.2.1 ∈ wsX3_copyFrom := by decide +kernel
theorem flX3_copyFrom_18 : Cond.fieldLink RX3 18 RX3 (TX3 2).2.1 (TX3 2).2.2.1 ∈ wsX3_copyFrom := by decide +kernel
theorem flX3_copyFrom_21 : Cond.fieldLink RX3 21 RX3 (TX3 3).2.1 (TX3 3).2.2.1 ∈ wsX3_copyFrom := by decide +kernel
theorem flX3_copyFrom_24 : Cond.fieldLink RX3 24 RX3 (TX3 4).2.1 (TX3 4).2.2.1 ∈ wsX3_copyFrom := by decide +kernel
theorem flX3_copyFrom_28 : Cond.fieldLink RX3 28 RX3 (TX3 5).2.1 (TX3 5).2.2.1 ∈ wsX3_copyFrom := by decide +kernel
theorem cwX3_copyFrom_53_0 : Cond.methodLink RX3 53 arraycopyName ∈ wsX3_copyFrom := by decide +kernel
theorem cwX3_copyFrom_53_1 : Cond.native arraycopyName ∈ wsX3_copyFrom := by decide +kernel
theorem cwX3_copyFrom_53_2 : Cond.static arraycopyName ∈ wsX3_copyFrom := by decide +kernel
theorem cwX3_copyFrom_53_3 : Cond.initialized "java/lang/System" ∈ wsX3_copyFrom := by decide +kernel
set_option maxHeartbeats 4000000 in
set_option maxRecDepth 100000 in
theorem ctX3_copyFrom (l : Launch) (g : Gx) (lo : Nat) (ad : Nat → Nat) {F : Nat → va_E} {b : Nat} {w : LV} (hb : 8 ≤ b ∧ b + 5 ≤ 196) (hL : LoadC g ad F b w) {b2 : Nat} {w2 : LV} (hb2 : b2 + 5 ≤ 196) (hd : b2 + 5 ≤ b ∨ b + 5 ≤ b2) (hM : LoadC g ad F b2 w2) (hc1 : CAN w) (hc2 : CAN w2) : MV l g lo 196 ad yX3_copyFrom wsX3_copyFrom 1 40 [.ref (ad (b)), .ref (ad (b2))] F (fun F' => LoadC g ad F' b w2 ∧ Same b (b + 5) F F') := by
  obtain ⟨h0, h1, h2, h3, h4⟩ := hL
  obtain ⟨m0, m1, m2, m3, m4⟩ := hM
  refine enter (cc := cX3_copyFrom) (maxL := 2) (ret := none) (own := RX3) (by decide +kernel) rfl rfl (Nat.le_of_ble_eq_true rfl) ?_
  intro pp ee ss mm below meth cc B hini hC ls hl
  have hl : lv_has ls 2 [(0, .ref (ad (b))), (1, .ref (ad (b2)))] := hl
  refine lv_aload_n B.1 B.2.1 dX3_copyFrom_0 rfl (lv_at hl 1 rfl) ?_
  refine r_cg B hC (i := b2) (by omega) m0 (C := RX3) (T := TX3) (n := 6) rfl iwX3_copyFrom_X3 0 (by decide) (index := 9) flX3_copyFrom_9 rfl (v := .ref (ad (b2 + 1))) rfl dX3_copyFrom_1 ?_
  refine lv_iconst (v := nI 0) B.1 B.2.1 dX3_copyFrom_4 (by decide) ?_
  refine lv_aload_n B.1 B.2.1 dX3_copyFrom_5 rfl (lv_at hl 0 rfl) ?_
  refine r_cg B hC (i := b) (by omega) h0 (C := RX3) (T := TX3) (n := 6) rfl iwX3_copyFrom_X3 0 (by decide) (index := 9) flX3_copyFrom_9 rfl (v := .ref (ad (b + 1))) rfl dX3_copyFrom_6 ?_
  refine lv_iconst (v := nI 0) B.1 B.2.1 dX3_copyFrom_9 (by decide) ?_
  refine lv_bipush (v := nI 10) B.1 B.2.1 dX3_copyFrom_10 (by decide) ?_
  refine r_copyi B hC hl.1 (i := b2 + 1) (j := b + 1) (by omega) (by omega) m1 h1 (k := 10) (by decide) (by decide) (by decide) cwX3_copyFrom_53_0 cwX3_copyFrom_53_1 cwX3_copyFrom_53_2 cwX3_copyFrom_53_3 (Nat.le_of_ble_eq_true rfl) (by decide) dX3_copyFrom_12 ?_
  intro H locs hC
  obtain ⟨F1, eF1⟩ : ∃ f : Nat → va_E, f = va_up F (b + 1) (.inl (g.2.2 0, 10, .inl (fun j => nI (wh w2 j)))) := ⟨_, rfl⟩
  have hC : Cu g lo 196 ad F1 ss ss.heap H locs := by rw [eF1]; exact (by rw [cpy_10 (by intro j hj; have p1 := hc1 j hj; have p2 := hc2 j hj; simp [p1, p2])] at hC; exact hC)
  have kb1_F1 : F1 (b + 1) = .inl (g.2.2 0, 10, .inl (fun j => nI (wh w2 j))) := by rw [eF1]; exact va_up_self _ _ _
  have h0_F1 : F1 b = .inr (3, [.ref (ad (b + 1)), .ref (ad (b + 2)), .ref (ad (b + 3)), .ref (ad (b + 4)), .int (nI (wa w)), .int (bI (su w))]) := by rw [eF1, va_up_ne _ _ (by omega)]; exact h0
  have h2_F1 : F1 (b + 2) = .inl (g.2.2 0, 10, .inl (fun j => nI (ln w j))) := by rw [eF1, va_up_ne _ _ (by omega)]; exact h2
  have h3_F1 : F1 (b + 3) = .inl (g.2.2 0, 10, .inl (fun j => nI (wo w j))) := by rw [eF1, va_up_ne _ _ (by omega)]; exact h3
  have h4_F1 : F1 (b + 4) = .inl (g.2.2 0, 10, .inl (fun j => oI (ti w j))) := by rw [eF1, va_up_ne _ _ (by omega)]; exact h4
  have m0_F1 : F1 b2 = .inr (3, [.ref (ad (b2 + 1)), .ref (ad (b2 + 2)), .ref (ad (b2 + 3)), .ref (ad (b2 + 4)), .int (nI (wa w2)), .int (bI (su w2))]) := by rw [eF1, va_up_ne _ _ (by omega)]; exact m0
  have m1_F1 : F1 (b2 + 1) = .inl (g.2.2 0, 10, .inl (fun j => nI (wh w2 j))) := by rw [eF1, va_up_ne _ _ (by omega)]; exact m1
  have m2_F1 : F1 (b2 + 2) = .inl (g.2.2 0, 10, .inl (fun j => nI (ln w2 j))) := by rw [eF1, va_up_ne _ _ (by omega)]; exact m2
  have m3_F1 : F1 (b2 + 3) = .inl (g.2.2 0, 10, .inl (fun j => nI (wo w2 j))) := by rw [eF1, va_up_ne _ _ (by omega)]; exact m3
  have m4_F1 : F1 (b2 + 4) = .inl (g.2.2 0, 10, .inl (fun j => oI (ti w2 j))) := by rw [eF1, va_up_ne _ _ (by omega)]; exact m4
  refine lv_aload_n B.1 B.2.1 dX3_copyFrom_15 rfl (lv_at hl 1 rfl) ?_
  refine r_cg B hC (i := b2) (by omega) m0_F1 (C := RX3) (T := TX3) (n := 6) rfl iwX3_copyFrom_X3 1 (by decide) (index := 15) flX3_copyFrom_15 rfl (v := .ref (ad (b2 + 2))) rfl dX3_copyFrom_16 ?_
  refine lv_iconst (v := nI 0) B.1 B.2.1 dX3_copyFrom_19 (by decide) ?_
  refine lv_aload_n B.1 B.2.1 dX3_copyFrom_20 rfl (lv_at hl 0 rfl) ?_
  refine r_cg B hC (i := b) (by omega) h0_F1 (C := RX3) (T := TX3) (n := 6) rfl iwX3_copyFrom_X3 1 (by decide) (index := 15) flX3_copyFrom_15 rfl (v := .ref (ad (b + 2))) rfl dX3_copyFrom_21 ?_
  refine lv_iconst (v := nI 0) B.1 B.2.1 dX3_copyFrom_24 (by decide) ?_
  refine lv_bipush (v := nI 10) B.1 B.2.1 dX3_copyFrom_25 (by decide) ?_
  refine r_copyi B hC hl.1 (i := b2 + 2) (j := b + 2) (by omega) (by omega) m2_F1 h2_F1 (k := 10) (by decide) (by decide) (by decide) cwX3_copyFrom_53_0 cwX3_copyFrom_53_1 cwX3_copyFrom_53_2 cwX3_copyFrom_53_3 (Nat.le_of_ble_eq_true rfl) (by decide) dX3_copyFrom_27 ?_
  intro H locs hC
  obtain ⟨F2, eF2⟩ : ∃ f : Nat → va_E, f = va_up F1 (b + 2) (.inl (g.2.2 0, 10, .inl (fun j => nI (ln w2 j)))) := ⟨_, rfl⟩
  have hC : Cu g lo 196 ad F2 ss ss.heap H locs := by rw [eF2]; exact (by rw [cpy_10 (by intro j hj; have p1 := hc1 j hj; have p2 := hc2 j hj; simp [p1, p2])] at hC; exact hC)
  have kb2_F2 : F2 (b + 2) = .inl (g.2.2 0, 10, .inl (fun j => nI (ln w2 j))) := by rw [eF2]; exact va_up_self _ _ _
  have h0_F2 : F2 b = .inr (3, [.ref (ad (b + 1)), .ref (ad (b + 2)), .ref (ad (b + 3)), .ref (ad (b + 4)), .int (nI (wa w)), .int (bI (su w))]) := by rw [eF2, va_up_ne _ _ (by omega)]; exact h0_F1
  have h3_F2 : F2 (b + 3) = .inl (g.2.2 0, 10, .inl (fun j => nI (wo w j))) := by rw [eF2, va_up_ne _ _ (by omega)]; exact h3_F1
  have h4_F2 : F2 (b + 4) = .inl (g.2.2 0, 10, .inl (fun j => oI (ti w j))) := by rw [eF2, va_up_ne _ _ (by omega)]; exact h4_F1
  have m0_F2 : F2 b2 = .inr (3, [.ref (ad (b2 + 1)), .ref (ad (b2 + 2)), .ref (ad (b2 + 3)), .ref (ad (b2 + 4)), .int (nI (wa w2)), .int (bI (su w2))]) := by rw [eF2, va_up_ne _ _ (by omega)]; exact m0_F1
  have m1_F2 : F2 (b2 + 1) = .inl (g.2.2 0, 10, .inl (fun j => nI (wh w2 j))) := by rw [eF2, va_up_ne _ _ (by omega)]; exact m1_F1
  have m2_F2 : F2 (b2 + 2) = .inl (g.2.2 0, 10, .inl (fun j => nI (ln w2 j))) := by rw [eF2, va_up_ne _ _ (by omega)]; exact m2_F1
  have m3_F2 : F2 (b2 + 3) = .inl (g.2.2 0, 10, .inl (fun j => nI (wo w2 j))) := by rw [eF2, va_up_ne _ _ (by omega)]; exact m3_F1
  have m4_F2 : F2 (b2 + 4) = .inl (g.2.2 0, 10, .inl (fun j => oI (ti w2 j))) := by rw [eF2, va_up_ne _ _ (by omega)]; exact m4_F1
  have kb1_F2 : F2 (b + 1) = .inl (g.2.2 0, 10, .inl (fun j => nI (wh w2 j))) := by rw [eF2, va_up_ne _ _ (by omega)]; exact kb1_F1
  refine lv_aload_n B.1 B.2.1 dX3_copyFrom_30 rfl (lv_at hl 1 rfl) ?_
  refine r_cg B hC (i := b2) (by omega) m0_F2 (C := RX3) (T := TX3) (n := 6) rfl iwX3_copyFrom_X3 2 (by decide) (index := 18) flX3_copyFrom_18 rfl (v := .ref (ad (b2 + 3))) rfl dX3_copyFrom_31 ?_
  refine lv_iconst (v := nI 0) B.1 B.2.1 dX3_copyFrom_34 (by decide) ?_
  refine lv_aload_n B.1 B.2.1 dX3_copyFrom_35 rfl (lv_at hl 0 rfl) ?_
  refine r_cg B hC (i := b) (by omega) h0_F2 (C := RX3) (T := TX3) (n := 6) rfl iwX3_copyFrom_X3 2 (by decide) (index := 18) flX3_copyFrom_18 rfl (v := .ref (ad (b + 3))) rfl dX3_copyFrom_36 ?_
  refine lv_iconst (v := nI 0) B.1 B.2.1 dX3_copyFrom_39 (by decide) ?_
  refine lv_bipush (v := nI 10) B.1 B.2.1 dX3_copyFrom_40 (by decide) ?_
  refine r_copyi B hC hl.1 (i := b2 + 3) (j := b + 3) (by omega) (by omega) m3_F2 h3_F2 (k := 10) (by decide) (by decide) (by decide) cwX3_copyFrom_53_0 cwX3_copyFrom_53_1 cwX3_copyFrom_53_2 cwX3_copyFrom_53_3 (Nat.le_of_ble_eq_true rfl) (by decide) dX3_copyFrom_42 ?_
  intro H locs hC
  obtain ⟨F3, eF3⟩ : ∃ f : Nat → va_E, f = va_up F2 (b + 3) (.inl (g.2.2 0, 10, .inl (fun j => nI (wo w2 j)))) := ⟨_, rfl⟩
  have hC : Cu g lo 196 ad F3 ss ss.heap H locs := by rw [eF3]; exact (by rw [cpy_10 (by intro j hj; have p1 := hc1 j hj; have p2 := hc2 j hj; simp [p1, p2])] at hC; exact hC)
  have kb3_F3 : F3 (b + 3) = .inl (g.2.2 0, 10, .inl (fun j => nI (wo w2 j))) := by rw [eF3]; exact va_up_self _ _ _
  have h0_F3 : F3 b = .inr (3, [.ref (ad (b + 1)), .ref (ad (b + 2)), .ref (ad (b + 3)), .ref (ad (b + 4)), .int (nI (wa w)), .int (bI (su w))]) := by rw [eF3, va_up_ne _ _ (by omega)]; exact h0_F2
  have h4_F3 : F3 (b + 4) = .inl (g.2.2 0, 10, .inl (fun j => oI (ti w j))) := by rw [eF3, va_up_ne _ _ (by omega)]; exact h4_F2
  have m0_F3 : F3 b2 = .inr (3, [.ref (ad (b2 + 1)), .ref (ad (b2 + 2)), .ref (ad (b2 + 3)), .ref (ad (b2 + 4)), .int (nI (wa w2)), .int (bI (su w2))]) := by rw [eF3, va_up_ne _ _ (by omega)]; exact m0_F2
  have m1_F3 : F3 (b2 + 1) = .inl (g.2.2 0, 10, .inl (fun j => nI (wh w2 j))) := by rw [eF3, va_up_ne _ _ (by omega)]; exact m1_F2
  have m2_F3 : F3 (b2 + 2) = .inl (g.2.2 0, 10, .inl (fun j => nI (ln w2 j))) := by rw [eF3, va_up_ne _ _ (by omega)]; exact m2_F2
  have m3_F3 : F3 (b2 + 3) = .inl (g.2.2 0, 10, .inl (fun j => nI (wo w2 j))) := by rw [eF3, va_up_ne _ _ (by omega)]; exact m3_F2
  have m4_F3 : F3 (b2 + 4) = .inl (g.2.2 0, 10, .inl (fun j => oI (ti w2 j))) := by rw [eF3, va_up_ne _ _ (by omega)]; exact m4_F2
  have kb1_F3 : F3 (b + 1) = .inl (g.2.2 0, 10, .inl (fun j => nI (wh w2 j))) := by rw [eF3, va_up_ne _ _ (by omega)]; exact kb1_F2
  have kb2_F3 : F3 (b + 2) = .inl (g.2.2 0, 10, .inl (fun j => nI (ln w2 j))) := by rw [eF3, va_up_ne _ _ (by omega)]; exact kb2_F2
  refine lv_aload_n B.1 B.2.1 dX3_copyFrom_45 rfl (lv_at hl 1 rfl) ?_
  refine r_cg B hC (i := b2) (by omega) m0_F3 (C := RX3) (T := TX3) (n := 6) rfl iwX3_copyFrom_X3 3 (by decide) (index := 21) flX3_copyFrom_21 rfl (v := .ref (ad (b2 + 4))) rfl dX3_copyFrom_46 ?_
  refine lv_iconst (v := nI 0) B.1 B.2.1 dX3_copyFrom_49 (by decide) ?_
  refine lv_aload_n B.1 B.2.1 dX3_copyFrom_50 rfl (lv_at hl 0 rfl) ?_
  refine r_cg B hC (i := b) (by omega) h0_F3 (C := RX3) (T := TX3) (n := 6) rfl iwX3_copyFrom_X3 3 (by decide) (index := 21) flX3_copyFrom_21 rfl (v := .ref (ad (b + 4))) rfl dX3_copyFrom_51 ?_
  refine lv_iconst (v := nI 0) B.1 B.2.1 dX3_copyFrom_54 (by decide) ?_
  refine lv_bipush (v := nI 10) B.1 B.2.1 dX3_copyFrom_55 (by decide) ?_
  refine r_copyi B hC hl.1 (i := b2 + 4) (j := b + 4) (by omega) (by omega) m4_F3 h4_F3 (k := 10) (by decide) (by decide) (by decide) cwX3_copyFrom_53_0 cwX3_copyFrom_53_1 cwX3_copyFrom_53_2 cwX3_copyFrom_53_3 (Nat.le_of_ble_eq_true rfl) (by decide) dX3_copyFrom_57 ?_
  intro H locs hC
  obtain ⟨F4, eF4⟩ : ∃ f : Nat → va_E, f = va_up F3 (b + 4) (.inl (g.2.2 0, 10, .inl (fun j => oI (ti w2 j)))) := ⟨_, rfl⟩
  have hC : Cu g lo 196 ad F4 ss ss.heap H locs := by rw [eF4]; exact (by rw [cpy_10 (by intro j hj; have p1 := hc1 j hj; have p2 := hc2 j hj; simp [p1, p2])] at hC; exact hC)
  have kb4_F4 : F4 (b + 4) = .inl (g.2.2 0, 10, .inl (fun j => oI (ti w2 j))) := by rw [eF4]; exact va_up_self _ _ _
  have h0_F4 : F4 b = .inr (3, [.ref (ad (b + 1)), .ref (ad (b + 2)), .ref (ad (b + 3)), .ref (ad (b + 4)), .int (nI (wa w)), .int (bI (su w))]) := by rw [eF4, va_up_ne _ _ (by omega)]; exact h0_F3
  have m0_F4 : F4 b2 = .inr (3, [.ref (ad (b2 + 1)), .ref (ad (b2 + 2)), .ref (ad (b2 + 3)), .ref (ad (b2 + 4)), .int (nI (wa w2)), .int (bI (su w2))]) := by rw [eF4, va_up_ne _ _ (by omega)]; exact m0_F3
  have m1_F4 : F4 (b2 + 1) = .inl (g.2.2 0, 10, .inl (fun j => nI (wh w2 j))) := by rw [eF4, va_up_ne _ _ (by omega)]; exact m1_F3
  have m2_F4 : F4 (b2 + 2) = .inl (g.2.2 0, 10, .inl (fun j => nI (ln w2 j))) := by rw [eF4, va_up_ne _ _ (by omega)]; exact m2_F3
  have m3_F4 : F4 (b2 + 3) = .inl (g.2.2 0, 10, .inl (fun j => nI (wo w2 j))) := by rw [eF4, va_up_ne _ _ (by omega)]; exact m3_F3
  have m4_F4 : F4 (b2 + 4) = .inl (g.2.2 0, 10, .inl (fun j => oI (ti w2 j))) := by rw [eF4, va_up_ne _ _ (by omega)]; exact m4_F3
  have kb1_F4 : F4 (b + 1) = .inl (g.2.2 0, 10, .inl (fun j => nI (wh w2 j))) := by rw [eF4, va_up_ne _ _ (by omega)]; exact kb1_F3
  have kb2_F4 : F4 (b + 2) = .inl (g.2.2 0, 10, .inl (fun j => nI (ln w2 j))) := by rw [eF4, va_up_ne _ _ (by omega)]; exact kb2_F3
  have kb3_F4 : F4 (b + 3) = .inl (g.2.2 0, 10, .inl (fun j => nI (wo w2 j))) := by rw [eF4, va_up_ne _ _ (by omega)]; exact kb3_F3
  refine lv_aload_n B.1 B.2.1 dX3_copyFrom_60 rfl (lv_at hl 0 rfl) ?_
  refine lv_aload_n B.1 B.2.1 dX3_copyFrom_61 rfl (lv_at hl 1 rfl) ?_
  refine r_cg B hC (i := b2) (by omega) m0_F4 (C := RX3) (T := TX3) (n := 6) rfl iwX3_copyFrom_X3 4 (by decide) (index := 24) flX3_copyFrom_24 rfl (v := .int (nI (wa w2))) rfl dX3_copyFrom_62 ?_
  refine r_cp B hC (i := b) (by omega) h0_F4 tyX3 tyX3_ok nmX3 (C := RX3) (T := TX3) rfl iwX3_copyFrom_X3 4 (by decide) (index := 24) flX3_copyFrom_24 rfl rfl (v := .int (nI (wa w2))) (rfl) (rfl) (Nat.le_of_ble_eq_true rfl) dX3_copyFrom_65 ?_
  intro H locs hC
  obtain ⟨F5, eF5⟩ : ∃ f : Nat → va_E, f = va_up F4 (b) (.inr (3, [.ref (ad (b + 1)), .ref (ad (b + 2)), .ref (ad (b + 3)), .ref (ad (b + 4)), .int (nI (wa w2)), .int (bI (su w))])) := ⟨_, rfl⟩
  have hC : Cu g lo 196 ad F5 ss ss.heap H locs := by rw [eF5]; exact hC
  have kb_F5 : F5 b = .inr (3, [.ref (ad (b + 1)), .ref (ad (b + 2)), .ref (ad (b + 3)), .ref (ad (b + 4)), .int (nI (wa w2)), .int (bI (su w))]) := by rw [eF5]; exact va_up_self _ _ _
  have m0_F5 : F5 b2 = .inr (3, [.ref (ad (b2 + 1)), .ref (ad (b2 + 2)), .ref (ad (b2 + 3)), .ref (ad (b2 + 4)), .int (nI (wa w2)), .int (bI (su w2))]) := by rw [eF5, va_up_ne _ _ (by omega)]; exact m0_F4
  have m1_F5 : F5 (b2 + 1) = .inl (g.2.2 0, 10, .inl (fun j => nI (wh w2 j))) := by rw [eF5, va_up_ne _ _ (by omega)]; exact m1_F4
  have m2_F5 : F5 (b2 + 2) = .inl (g.2.2 0, 10, .inl (fun j => nI (ln w2 j))) := by rw [eF5, va_up_ne _ _ (by omega)]; exact m2_F4
  have m3_F5 : F5 (b2 + 3) = .inl (g.2.2 0, 10, .inl (fun j => nI (wo w2 j))) := by rw [eF5, va_up_ne _ _ (by omega)]; exact m3_F4
  have m4_F5 : F5 (b2 + 4) = .inl (g.2.2 0, 10, .inl (fun j => oI (ti w2 j))) := by rw [eF5, va_up_ne _ _ (by omega)]; exact m4_F4
  have kb1_F5 : F5 (b + 1) = .inl (g.2.2 0, 10, .inl (fun j => nI (wh w2 j))) := by rw [eF5, va_up_ne _ _ (by omega)]; exact kb1_F4
  have kb2_F5 : F5 (b + 2) = .inl (g.2.2 0, 10, .inl (fun j => nI (ln w2 j))) := by rw [eF5, va_up_ne _ _ (by omega)]; exact kb2_F4
  have kb3_F5 : F5 (b + 3) = .inl (g.2.2 0, 10, .inl (fun j => nI (wo w2 j))) := by rw [eF5, va_up_ne _ _ (by omega)]; exact kb3_F4
  have kb4_F5 : F5 (b + 4) = .inl (g.2.2 0, 10, .inl (fun j => oI (ti w2 j))) := by rw [eF5, va_up_ne _ _ (by omega)]; exact kb4_F4
  refine lv_aload_n B.1 B.2.1 dX3_copyFrom_68 rfl (lv_at hl 0 rfl) ?_
  refine lv_aload_n B.1 B.2.1 dX3_copyFrom_69 rfl (lv_at hl 1 rfl) ?_
  refine r_cg B hC (i := b2) (by omega) m0_F5 (C := RX3) (T := TX3) (n := 6) rfl iwX3_copyFrom_X3 5 (by decide) (index := 28) flX3_copyFrom_28 rfl (v := .int (bI (su w2))) rfl dX3_copyFrom_70 ?_
  refine r_cp B hC (i := b) (by omega) kb_F5 tyX3 tyX3_ok nmX3 (C := RX3) (T := TX3) rfl iwX3_copyFrom_X3 5 (by decide) (index := 28) flX3_copyFrom_28 rfl rfl (v := .int (bI (su w2))) (nar_b _) (fit_b _) (Nat.le_of_ble_eq_true rfl) dX3_copyFrom_73 ?_
  intro H locs hC
  obtain ⟨F6, eF6⟩ : ∃ f : Nat → va_E, f = va_up F5 (b) (.inr (3, [.ref (ad (b + 1)), .ref (ad (b + 2)), .ref (ad (b + 3)), .ref (ad (b + 4)), .int (nI (wa w2)), .int (bI (su w2))])) := ⟨_, rfl⟩
  have hC : Cu g lo 196 ad F6 ss ss.heap H locs := by rw [eF6]; exact hC
  have kb_F6 : F6 b = .inr (3, [.ref (ad (b + 1)), .ref (ad (b + 2)), .ref (ad (b + 3)), .ref (ad (b + 4)), .int (nI (wa w2)), .int (bI (su w2))]) := by rw [eF6]; exact va_up_self _ _ _
  have m0_F6 : F6 b2 = .inr (3, [.ref (ad (b2 + 1)), .ref (ad (b2 + 2)), .ref (ad (b2 + 3)), .ref (ad (b2 + 4)), .int (nI (wa w2)), .int (bI (su w2))]) := by rw [eF6, va_up_ne _ _ (by omega)]; exact m0_F5
  have m1_F6 : F6 (b2 + 1) = .inl (g.2.2 0, 10, .inl (fun j => nI (wh w2 j))) := by rw [eF6, va_up_ne _ _ (by omega)]; exact m1_F5
  have m2_F6 : F6 (b2 + 2) = .inl (g.2.2 0, 10, .inl (fun j => nI (ln w2 j))) := by rw [eF6, va_up_ne _ _ (by omega)]; exact m2_F5
  have m3_F6 : F6 (b2 + 3) = .inl (g.2.2 0, 10, .inl (fun j => nI (wo w2 j))) := by rw [eF6, va_up_ne _ _ (by omega)]; exact m3_F5
  have m4_F6 : F6 (b2 + 4) = .inl (g.2.2 0, 10, .inl (fun j => oI (ti w2 j))) := by rw [eF6, va_up_ne _ _ (by omega)]; exact m4_F5
  have kb1_F6 : F6 (b + 1) = .inl (g.2.2 0, 10, .inl (fun j => nI (wh w2 j))) := by rw [eF6, va_up_ne _ _ (by omega)]; exact kb1_F5
  have kb2_F6 : F6 (b + 2) = .inl (g.2.2 0, 10, .inl (fun j => nI (ln w2 j))) := by rw [eF6, va_up_ne _ _ (by omega)]; exact kb2_F5
  have kb3_F6 : F6 (b + 3) = .inl (g.2.2 0, 10, .inl (fun j => nI (wo w2 j))) := by rw [eF6, va_up_ne _ _ (by omega)]; exact kb3_F5
  have kb4_F6 : F6 (b + 4) = .inl (g.2.2 0, 10, .inl (fun j => oI (ti w2 j))) := by rw [eF6, va_up_ne _ _ (by omega)]; exact kb4_F5
  exact r_eV B hC (⟨⟨kb_F6, kb1_F6, kb2_F6, kb3_F6, kb4_F6⟩, (by rw [eF6]; exact Same.up (by rw [eF5]; exact Same.up (by rw [eF4]; exact Same.up (by rw [eF3]; exact Same.up (by rw [eF2]; exact Same.up (by rw [eF1]; exact Same.up Same.rf (by omega) (by omega)) (by omega) (by omega)) (by omega) (by omega)) (by omega) (by omega)) (by omega) (by omega)) (by omega) (by omega))⟩) dX3_copyFrom_76
end
section
/-! TEXT: its bytes, its length; what its methods answer and change -/
def sB (n : Nat) : Int32 := (nI n).toInt8.toInt32
theorem sB_255 {n : Nat} (h : n < 256) : sB n &&& nI 255 = nI n := sc_k8 n h
def y1 (o : Option Nat) : Int32 := match o with
  | none => -1
  | some k => nI k
abbrev TV : Type := (Nat → Nat) × Nat
def tb (v : TV) : Nat → Nat := v.1
def tn (v : TV) : Nat := v.2
/-- the byte at i, if there is one -/
def tat (v : TV) (i : Nat) : Option Nat := if i < tn v then some (tb v i) else none
def TextC (g : Gx) (ad : Nat → Nat) (F : Nat → va_E) (v : TV) : Prop := F 1 = .inr (7, [.ref (ad 2), .int (nI (tn v))]) ∧ F 2 = .inl (g.2.2 1, 72, .inl (fun j => sB (tb v j)))
theorem TextC.keep {g : Gx} {ad : Nat → Nat} {F F' : Nat → va_E} {v : TV} {x y : Nat} (h : TextC g ad F v) (hs : Same x y F F') (hd : 3 ≤ x ∨ y ≤ 1) : TextC g ad F' v := ⟨by rw [hs _ (by omega)]; exact h.1, by rw [hs _ (by omega)]; exact h.2⟩
def TOK (v : TV) : Prop := tn v ≤ 72 ∧ ∀ j, tb v j < 256
/-- a figure at i: a or more, below m -/
def isFig (v : TV) (i a m : Nat) : Bool := match tat v i with
  | none => false
  | some c => decide (48 + a ≤ c) && decide (c < 48 + m)
def bop (v : TV) (i : Nat) : Nat := if tat v i = some 80 then 6 else 4
theorem tat_lt {v : TV} (ok : TOK v) {i k : Nat} (h : tat v i = some k) : k < 256 := by
  unfold tat at h
  split at h
  · cases h; exact ok.2 i
  · cases h
theorem y1_eq {v : TV} (ok : TOK v) {i k : Nat} (hk : k < 256) : y1 (tat v i) = nI k ↔ tat v i = some k := by
  cases h : tat v i with
  | none =>
    simp only [y1, reduceCtorEq, iff_false]
    intro q
    have a := nI_toInt (show k < 2 ^ 31 by omega)
    rw [← q] at a
    have b : (-1 : Int32).toInt = -1 := by decide
    omega
  | some c =>
    have hc := tat_lt ok h
    simp only [y1, Option.some.injEq]
    exact nI_eq (by omega) (by omega)
theorem y1_48 {v : TV} (ok : TOK v) {i : Nat} : y1 (tat v i) - nI 48 = 0 ↔ tat v i = some 48 := by
  cases h : tat v i with
  | none =>
    simp only [y1, reduceCtorEq, iff_false]
    decide
  | some c =>
    have hc := tat_lt ok h
    simp only [y1, Option.some.injEq]
    constructor
    · intro q
      have a := pk_sub_toInt (show c < 2 ^ 30 by omega) (show 48 < 2 ^ 30 by decide)
      rw [q, Int32.toInt_zero] at a
      omega
    · intro q
      subst q
      decide
theorem fg_lt {v : TV} (ok : TOK v) {i a : Nat} (ha : a ≤ 9) : y1 (tat v i) - nI 48 < nI a ↔ ∀ c, tat v i = some c → c < 48 + a := by
  rw [Int32.lt_iff_toInt_lt, nI_toInt (by omega)]
  cases h : tat v i with
  | none =>
    have b : (y1 none - nI 48).toInt = -49 := by decide
    rw [b]
    constructor
    · intro _ c hc; cases hc
    · intro _; omega
  | some c =>
    have hc := tat_lt ok h
    have b := pk_sub_toInt (show c < 2 ^ 30 by omega) (show 48 < 2 ^ 30 by decide)
    rw [show y1 (some c) = nI c from rfl, b]
    constructor
    · intro q d hd; cases hd; omega
    · intro q; have := q c rfl; omega
theorem fg_gt {v : TV} (ok : TOK v) {i m : Nat} (hm : m ≤ 10) : nI m - nI 1 < y1 (tat v i) - nI 48 ↔ ∃ c, tat v i = some c ∧ 48 + m ≤ c := by
  rw [Int32.lt_iff_toInt_lt, pk_sub_toInt (by omega) (by decide)]
  cases h : tat v i with
  | none =>
    have b : (y1 none - nI 48).toInt = -49 := by decide
    rw [b]
    constructor
    · intro _; omega
    · intro ⟨c, hc, _⟩; cases hc
  | some c =>
    have hc := tat_lt ok h
    have b := pk_sub_toInt (show c < 2 ^ 30 by omega) (show 48 < 2 ^ 30 by decide)
    rw [show y1 (some c) = nI c from rfl, b]
    constructor
    · intro q; exact ⟨c, rfl, by omega⟩
    · intro ⟨d, hd, q⟩; cases hd; omega
/-- the FAULT in the head; in a place; in all -/
def fHead (v : TV) : Option Nat := if tat v 0 = some 83 then (if isFig v 1 0 10 = true then (if isFig v 2 0 10 = true then (if isFig v 3 (if tat v 2 = some 48 then 1 else 0) 10 = true then none else some 3) else some 2) else some 1) else some 0
def fTimber (v : TV) (i : Nat) : Option Nat := if isFig v (i + 4) 0 3 = true then (if isFig v (i + 5) 0 10 = true then none else some (i + 5)) else some (i + 4)
def fPlace (v : TV) (i p : Nat) : Option Nat :=
  if tat v i = some 80 ∨ tat v i = some 79 then (if isFig v (i + 1) 1 10 = true then (if isFig v (i + 2) 0 10 = true then (if tat v (i + 3) = some 45 ∨ isFig v (i + 3) 0 p = true then (if tat v i = some 80 then fTimber v i else none) else some (i + 3)) else some (i + 2)) else some (i + 1)) else some i
theorem iwX7_byteAt_X7 : ∀ w ∈ u_ws RX7 TX7 2, w ∈ wsX7_byteAt := by decide +kernel
theorem flX7_byteAt_9 : Cond.fieldLink RX7 9 RX7 (TX7 0).2.1 (TX7 0).2.2.1 ∈ wsX7_byteAt := by decide +kernel
theorem flX7_byteAt_15 : Cond.fieldLink RX7 15 RX7 (TX7 1).2.1 (TX7 1).2.2.1 ∈ wsX7_byteAt := by decide +kernel
set_option maxHeartbeats 4000000 in
set_option maxRecDepth 100000 in
theorem ctX7_byteAt (l : Launch) (g : Gx) (lo : Nat) (ad : Nat → Nat) {F : Nat → va_E} {v : TV} (hT : TextC g ad F v) (ok : TOK v) {i : Nat} (hi : i < 1000) : MI l g lo 196 ad yX7_byteAt wsX7_byteAt 0 0 [.ref (ad (1)), .int (nI i)] F (fun r F' => r = y1 (tat v i) ∧ F' = F) := by
  obtain ⟨h0, h1⟩ := id hT
  have okn := ok.1
  refine enter (cc := cX7_byteAt) (maxL := 2) (ret := some .int) (own := RX7) (by decide +kernel) rfl rfl (Nat.le_of_ble_eq_true rfl) ?_
  intro pp ee ss mm below meth cc B hini hC ls hl
  have hl : lv_has ls 2 [(0, .ref (ad (1))), (1, .int (nI i))] := hl
  refine lv_iload_n B.1 B.2.1 dX7_byteAt_0 rfl (lv_at hl 1 rfl) ?_
  refine lv_if_lt (tgt := 34) B.1 B.2.1 dX7_byteAt_1 (by decide) (fun z => absurd z (nI_pos (by omega))) (fun _ => ?_)
  refine lv_iload_n B.1 B.2.1 dX7_byteAt_4 rfl (lv_at hl 1 rfl) ?_
  refine lv_aload_n B.1 B.2.1 dX7_byteAt_5 rfl (lv_at hl 0 rfl) ?_
  refine r_cg B hC (i := 1) (by decide) h0 (C := RX7) (T := TX7) (n := 2) rfl iwX7_byteAt_X7 1 (by decide) (index := 15) flX7_byteAt_15 rfl (v := .int (nI (tn v))) rfl dX7_byteAt_6 ?_
  refine lv_icmp_ge (tgt := 34) B.1 B.2.1 dX7_byteAt_9 (by decide) (fun c_9 => ?_) (fun c_9 => ?_)
  · have q_9 : (tn v) ≤ i := (nI_leI (by omega) (by omega)).mp c_9
    refine lv_iconst (v := (-1)) B.1 B.2.1 dX7_byteAt_34 (by decide) ?_
    exact r_eI B hC (v := (-1)) (⟨by rw [tat, if_neg (by omega)]; rfl, rfl⟩) dX7_byteAt_35
  · have q_9 : ¬ (tn v) ≤ i := fun z => c_9 ((nI_leI (by omega) (by omega)).mpr z)
    refine lv_iload_n B.1 B.2.1 dX7_byteAt_12 rfl (lv_at hl 1 rfl) ?_
    refine lv_aload_n B.1 B.2.1 dX7_byteAt_13 rfl (lv_at hl 0 rfl) ?_
    refine r_cg B hC (i := 1) (by decide) h0 (C := RX7) (T := TX7) (n := 2) rfl iwX7_byteAt_X7 0 (by decide) (index := 9) flX7_byteAt_9 rfl (v := .ref (ad (2))) rfl dX7_byteAt_14 ?_
    refine r_calen B hC (i := 2) (by decide) h1 1 rfl (n := 72) rfl dX7_byteAt_17 ?_
    refine lv_icmp_ge (tgt := 34) B.1 B.2.1 dX7_byteAt_18 (by decide) (fun z => absurd z (nI_ge (by omega) (by omega))) (fun _ => ?_)
    refine lv_aload_n B.1 B.2.1 dX7_byteAt_21 rfl (lv_at hl 0 rfl) ?_
    refine r_cg B hC (i := 1) (by decide) h0 (C := RX7) (T := TX7) (n := 2) rfl iwX7_byteAt_X7 0 (by decide) (index := 9) flX7_byteAt_9 rfl (v := .ref (ad (2))) rfl dX7_byteAt_22 ?_
    refine lv_iload_n B.1 B.2.1 dX7_byteAt_25 rfl (lv_at hl 1 rfl) ?_
    refine r_cbald B hC (i := 2) (by decide) h1 (j := i) (by omega) (by decide) dX7_byteAt_26 ?_
    refine r_tI (y := sB (tb v i)) rfl ?_
    refine lv_sipush (v := nI 255) B.1 B.2.1 dX7_byteAt_27 (by decide) ?_
    refine lv_iand B.1 B.2.1 dX7_byteAt_30 ?_
    refine r_tI (y := nI (tb v i)) (sB_255 (ok.2 _)) ?_
    refine lv_goto (tgt := 35) B.1 B.2.1 dX7_byteAt_31 (by decide) ?_
    exact r_eI B hC (v := nI (tb v i)) (⟨by rw [tat, if_pos (by omega)]; rfl, rfl⟩) dX7_byteAt_35
set_option maxHeartbeats 4000000 in
set_option maxRecDepth 100000 in
theorem ctX7_figureAt (l : Launch) (g : Gx) (lo : Nat) (ad : Nat → Nat) {F : Nat → va_E} {v : TV} (hT : TextC g ad F v) (ok : TOK v) {i : Nat} (hi : i < 1000) : MI l g lo 196 ad yX7_figureAt wsX7_figureAt 1 21 [.ref (ad (1)), .int (nI i)] F (fun r F' => r = y1 (tat v i) - nI 48 ∧ F' = F) := by
  obtain ⟨h0, h1⟩ := id hT
  have okn := ok.1
  refine enter (cc := cX7_figureAt) (maxL := 2) (ret := some .int) (own := RX7) (by decide +kernel) rfl rfl (Nat.le_of_ble_eq_true rfl) ?_
  intro pp ee ss mm below meth cc B hini hC ls hl
  have hl : lv_has ls 2 [(0, .ref (ad (1))), (1, .int (nI i))] := hl
  refine lv_aload_n B.1 B.2.1 dX7_figureAt_0 rfl (lv_at hl 0 rfl) ?_
  refine lv_iload_n B.1 B.2.1 dX7_figureAt_1 rfl (lv_at hl 1 rfl) ?_
  refine r_calli B hC hl.1 (1) 7 rfl rfl (by decide) h0 (As := [.int (nI i)]) (ctX7_byteAt l g lo ad hT ok (i := i) (by omega)) gX7_figureAt_X7_byteAt rfl (n := 1) rfl (by decide +kernel) ⟨Nat.le_of_ble_eq_true rfl, Nat.le_of_ble_eq_true rfl⟩ ⟨Nat.zero_le _, Nat.zero_le _⟩ rfl (Nat.le_of_ble_eq_true rfl) dX7_figureAt_2 (fun r2 F1 H locs hp2 hC => ?_)
  obtain ⟨er, eF⟩ := hp2
  subst er
  rw [eF] at hC
  refine lv_bipush (v := nI 48) B.1 B.2.1 dX7_figureAt_5 (by decide) ?_
  refine lv_isub B.1 B.2.1 dX7_figureAt_7 ?_
  refine r_tI (y := y1 (tat v i) - nI 48) (rfl) ?_
  exact r_eI B hC (v := y1 (tat v i) - nI 48) (⟨rfl, rfl⟩) dX7_figureAt_8
set_option maxHeartbeats 4000000 in
set_option maxRecDepth 100000 in
theorem ctX7_isFilledPlace (l : Launch) (g : Gx) (lo : Nat) (ad : Nat → Nat) {F : Nat → va_E} {v : TV} (hT : TextC g ad F v) (ok : TOK v) {i : Nat} (hi : i < 1000) : MI l g lo 196 ad yX7_isFilledPlace wsX7_isFilledPlace 1 21 [.ref (ad (1)), .int (nI i)] F (fun r F' => r = bI (decide (tat v i = some 80)) ∧ F' = F) := by
  obtain ⟨h0, h1⟩ := id hT
  have okn := ok.1
  refine enter (cc := cX7_isFilledPlace) (maxL := 2) (ret := some .boolean) (own := RX7) (by decide +kernel) rfl rfl (Nat.le_of_ble_eq_true rfl) ?_
  intro pp ee ss mm below meth cc B hini hC ls hl
  have hl : lv_has ls 2 [(0, .ref (ad (1))), (1, .int (nI i))] := hl
  refine lv_aload_n B.1 B.2.1 dX7_isFilledPlace_0 rfl (lv_at hl 0 rfl) ?_
  refine lv_iload_n B.1 B.2.1 dX7_isFilledPlace_1 rfl (lv_at hl 1 rfl) ?_
  refine r_calli B hC hl.1 (1) 7 rfl rfl (by decide) h0 (As := [.int (nI i)]) (ctX7_byteAt l g lo ad hT ok (i := i) (by omega)) gX7_isFilledPlace_X7_byteAt rfl (n := 1) rfl (by decide +kernel) ⟨Nat.le_of_ble_eq_true rfl, Nat.le_of_ble_eq_true rfl⟩ ⟨Nat.zero_le _, Nat.zero_le _⟩ rfl (Nat.le_of_ble_eq_true rfl) dX7_isFilledPlace_2 (fun r2 F1 H locs hp2 hC => ?_)
  obtain ⟨er, eF⟩ := hp2
  subst er
  rw [eF] at hC
  refine lv_bipush (v := nI 80) B.1 B.2.1 dX7_isFilledPlace_5 (by decide) ?_
  refine lv_icmp_ne (tgt := 14) B.1 B.2.1 dX7_isFilledPlace_7 (by decide) (fun c_7 => ?_) (fun c_7 => ?_)
  · have q_7 : ¬ tat v i = some 80 := fun z => c_7 ((y1_eq ok (by decide)).mpr z)
    refine lv_iconst (v := nI 0) B.1 B.2.1 dX7_isFilledPlace_14 (by decide) ?_
    exact r_eZ B hC (v := nI 0) (rfl) (⟨by simp [q_7, bI]; rfl, rfl⟩) dX7_isFilledPlace_15
  · have q_7 := (y1_eq ok (i := i) (k := 80) (by decide)).mp c_7
    refine lv_iconst (v := nI 1) B.1 B.2.1 dX7_isFilledPlace_10 (by decide) ?_
    refine lv_goto (tgt := 15) B.1 B.2.1 dX7_isFilledPlace_11 (by decide) ?_
    exact r_eZ B hC (v := nI 1) (rfl) (⟨by simp [q_7, bI]; rfl, rfl⟩) dX7_isFilledPlace_15
set_option maxHeartbeats 4000000 in
set_option maxRecDepth 100000 in
theorem ctX7_bytesOfPlace (l : Launch) (g : Gx) (lo : Nat) (ad : Nat → Nat) {F : Nat → va_E} {v : TV} (hT : TextC g ad F v) (ok : TOK v) {i : Nat} (hi : i < 1000) : MI l g lo 196 ad yX7_bytesOfPlace wsX7_bytesOfPlace 2 42 [.ref (ad (1)), .int (nI i)] F (fun r F' => r = nI (bop v i) ∧ F' = F) := by
  obtain ⟨h0, h1⟩ := id hT
  have okn := ok.1
  refine enter (cc := cX7_bytesOfPlace) (maxL := 2) (ret := some .int) (own := RX7) (by decide +kernel) rfl rfl (Nat.le_of_ble_eq_true rfl) ?_
  intro pp ee ss mm below meth cc B hini hC ls hl
  have hl : lv_has ls 2 [(0, .ref (ad (1))), (1, .int (nI i))] := hl
  refine lv_aload_n B.1 B.2.1 dX7_bytesOfPlace_0 rfl (lv_at hl 0 rfl) ?_
  refine lv_iload_n B.1 B.2.1 dX7_bytesOfPlace_1 rfl (lv_at hl 1 rfl) ?_
  refine r_calli B hC hl.1 (1) 7 rfl rfl (by decide) h0 (As := [.int (nI i)]) (ctX7_isFilledPlace l g lo ad hT ok (i := i) (by omega)) gX7_bytesOfPlace_X7_isFilledPlace rfl (n := 1) rfl (by decide +kernel) ⟨Nat.le_of_ble_eq_true rfl, Nat.le_of_ble_eq_true rfl⟩ ⟨Nat.zero_le _, Nat.zero_le _⟩ rfl (Nat.le_of_ble_eq_true rfl) dX7_bytesOfPlace_2 (fun r2 F1 H locs hp2 hC => ?_)
  obtain ⟨er, eF⟩ := hp2
  subst er
  rw [eF] at hC
  refine lv_if_eq (tgt := 13) B.1 B.2.1 dX7_bytesOfPlace_5 (by decide) (fun c_5 => ?_) (fun c_5 => ?_)
  · have q_5 : (decide (tat v i = some 80)) = false := bI_f.mp c_5
    refine lv_iconst (v := nI 4) B.1 B.2.1 dX7_bytesOfPlace_13 (by decide) ?_
    exact r_eI B hC (v := nI 4) (⟨by have q := of_decide_eq_false q_5; simp [bop, q], rfl⟩) dX7_bytesOfPlace_14
  · have q_5 : (decide (tat v i = some 80)) = true := bI_t.mp c_5
    refine lv_bipush (v := nI 6) B.1 B.2.1 dX7_bytesOfPlace_8 (by decide) ?_
    refine lv_goto (tgt := 14) B.1 B.2.1 dX7_bytesOfPlace_10 (by decide) ?_
    exact r_eI B hC (v := nI 6) (⟨by have q := of_decide_eq_true q_5; simp [bop, q], rfl⟩) dX7_bytesOfPlace_14
set_option maxHeartbeats 4000000 in
set_option maxRecDepth 100000 in
theorem ctX7_isFigure (l : Launch) (g : Gx) (lo : Nat) (ad : Nat → Nat) {F : Nat → va_E} {v : TV} (hT : TextC g ad F v) (ok : TOK v) {i a m : Nat} (hi : i < 1000) (ha : a ≤ 9) (hm : m ≤ 10) : MI l g lo 196 ad yX7_isFigure wsX7_isFigure 2 42 [.ref (ad (1)), .int (nI i), .int (nI a), .int (nI m - nI 1)] F (fun r F' => r = bI (isFig v i a m) ∧ F' = F) := by
  obtain ⟨h0, h1⟩ := id hT
  have okn := ok.1
  refine enter (cc := cX7_isFigure) (maxL := 4) (ret := some .boolean) (own := RX7) (by decide +kernel) rfl rfl (Nat.le_of_ble_eq_true rfl) ?_
  intro pp ee ss mm below meth cc B hini hC ls hl
  have hl : lv_has ls 4 [(0, .ref (ad (1))), (1, .int (nI i)), (2, .int (nI a)), (3, .int (nI m - nI 1))] := hl
  refine lv_aload_n B.1 B.2.1 dX7_isFigure_0 rfl (lv_at hl 0 rfl) ?_
  refine lv_iload_n B.1 B.2.1 dX7_isFigure_1 rfl (lv_at hl 1 rfl) ?_
  refine r_calli B hC hl.1 (1) 7 rfl rfl (by decide) h0 (As := [.int (nI i)]) (ctX7_figureAt l g lo ad hT ok (i := i) (by omega)) gX7_isFigure_X7_figureAt rfl (n := 1) rfl (by decide +kernel) ⟨Nat.le_of_ble_eq_true rfl, Nat.le_of_ble_eq_true rfl⟩ ⟨Nat.zero_le _, Nat.zero_le _⟩ rfl (Nat.le_of_ble_eq_true rfl) dX7_isFigure_2 (fun r2 F1 H locs hp2 hC => ?_)
  obtain ⟨er, eF⟩ := hp2
  subst er
  rw [eF] at hC
  refine lv_iload_n B.1 B.2.1 dX7_isFigure_5 rfl (lv_at hl 2 rfl) ?_
  refine lv_icmp_lt (tgt := 22) B.1 B.2.1 dX7_isFigure_6 (by decide) (fun c_6 => ?_) (fun c_6 => ?_)
  · have q_6 := (fg_lt ok ha).mp c_6
    refine lv_iconst (v := nI 0) B.1 B.2.1 dX7_isFigure_22 (by decide) ?_
    exact r_eZ B hC (v := nI 0) (rfl) (⟨by
    have hs : isFig v i a m = false := by
      unfold isFig
      cases hh : tat v i with
      | none => rfl
      | some c => have z := q_6 c hh; simp; omega
    rw [hs]; rfl, rfl⟩) dX7_isFigure_23
  · have q_6 := fun z => c_6 ((fg_lt ok ha).mpr z)
    refine lv_aload_n B.1 B.2.1 dX7_isFigure_9 rfl (lv_at hl 0 rfl) ?_
    refine lv_iload_n B.1 B.2.1 dX7_isFigure_10 rfl (lv_at hl 1 rfl) ?_
    refine r_calli B hC hl.1 (1) 7 rfl rfl (by decide) h0 (As := [.int (nI i)]) (ctX7_figureAt l g lo ad hT ok (i := i) (by omega)) gX7_isFigure_X7_figureAt rfl (n := 1) rfl (by decide +kernel) ⟨Nat.le_of_ble_eq_true rfl, Nat.le_of_ble_eq_true rfl⟩ ⟨Nat.zero_le _, Nat.zero_le _⟩ rfl (Nat.le_of_ble_eq_true rfl) dX7_isFigure_11 (fun r11 F1 H locs hp11 hC => ?_)
    obtain ⟨er, eF⟩ := hp11
    subst er
    rw [eF] at hC
    refine lv_iload_n B.1 B.2.1 dX7_isFigure_14 rfl (lv_at hl 3 rfl) ?_
    refine lv_icmp_gt (tgt := 22) B.1 B.2.1 dX7_isFigure_15 (by decide) (fun c_15 => ?_) (fun c_15 => ?_)
    · have q_15 := (fg_gt ok hm).mp c_15
      refine lv_iconst (v := nI 0) B.1 B.2.1 dX7_isFigure_22 (by decide) ?_
      exact r_eZ B hC (v := nI 0) (rfl) (⟨by
    have hs : isFig v i a m = false := by
      unfold isFig
      cases hh : tat v i with
      | none => rfl
      | some c => obtain ⟨d, hd, z⟩ := q_15; rw [hh] at hd; cases hd; simp; omega
    rw [hs]; rfl, rfl⟩) dX7_isFigure_23
    · have q_15 := fun z => c_15 ((fg_gt ok hm).mpr z)
      refine lv_iconst (v := nI 1) B.1 B.2.1 dX7_isFigure_18 (by decide) ?_
      refine lv_goto (tgt := 23) B.1 B.2.1 dX7_isFigure_19 (by decide) ?_
      exact r_eZ B hC (v := nI 1) (rfl) (⟨by
    have hs : isFig v i a m = true := by
      unfold isFig
      cases hh : tat v i with
      | none => exact absurd (fun c hc => by rw [hh] at hc; cases hc) q_6
      | some c => simp only [Bool.and_eq_true, decide_eq_true_eq]; refine ⟨Nat.not_lt.mp fun z => q_6 fun d hd => ?_, Nat.not_le.mp fun z => q_15 ⟨c, hh, z⟩⟩; rw [hh] at hd; cases hd; exact z
    rw [hs]; rfl, rfl⟩) dX7_isFigure_23
theorem iwX7_hasRoomFor_X7 : ∀ w ∈ u_ws RX7 TX7 2, w ∈ wsX7_hasRoomFor := by decide +kernel
theorem flX7_hasRoomFor_9 : Cond.fieldLink RX7 9 RX7 (TX7 0).2.1 (TX7 0).2.2.1 ∈ wsX7_hasRoomFor := by decide +kernel
theorem flX7_hasRoomFor_15 : Cond.fieldLink RX7 15 RX7 (TX7 1).2.1 (TX7 1).2.2.1 ∈ wsX7_hasRoomFor := by decide +kernel
set_option maxHeartbeats 4000000 in
set_option maxRecDepth 100000 in
theorem ctX7_hasRoomFor (l : Launch) (g : Gx) (lo : Nat) (ad : Nat → Nat) {F : Nat → va_E} {v : TV} (hT : TextC g ad F v) (ok : TOK v) {n : Nat} (hn : n ≤ 8) : MI l g lo 196 ad yX7_hasRoomFor wsX7_hasRoomFor 0 0 [.ref (ad (1)), .int (nI n)] F (fun r F' => r = bI (decide (tn v + n ≤ 72)) ∧ F' = F) := by
  obtain ⟨h0, h1⟩ := id hT
  have okn := ok.1
  refine enter (cc := cX7_hasRoomFor) (maxL := 2) (ret := some .boolean) (own := RX7) (by decide +kernel) rfl rfl (Nat.le_of_ble_eq_true rfl) ?_
  intro pp ee ss mm below meth cc B hini hC ls hl
  have hl : lv_has ls 2 [(0, .ref (ad (1))), (1, .int (nI n))] := hl
  refine lv_aload_n B.1 B.2.1 dX7_hasRoomFor_0 rfl (lv_at hl 0 rfl) ?_
  refine r_cg B hC (i := 1) (by decide) h0 (C := RX7) (T := TX7) (n := 2) rfl iwX7_hasRoomFor_X7 1 (by decide) (index := 15) flX7_hasRoomFor_15 rfl (v := .int (nI (tn v))) rfl dX7_hasRoomFor_1 ?_
  refine lv_iload_n B.1 B.2.1 dX7_hasRoomFor_4 rfl (lv_at hl 1 rfl) ?_
  refine lv_iadd B.1 B.2.1 dX7_hasRoomFor_5 ?_
  refine r_tI (y := nI ((tn v) + n)) (nI_add _ _) ?_
  refine lv_aload_n B.1 B.2.1 dX7_hasRoomFor_6 rfl (lv_at hl 0 rfl) ?_
  refine r_cg B hC (i := 1) (by decide) h0 (C := RX7) (T := TX7) (n := 2) rfl iwX7_hasRoomFor_X7 0 (by decide) (index := 9) flX7_hasRoomFor_9 rfl (v := .ref (ad (2))) rfl dX7_hasRoomFor_7 ?_
  refine r_calen B hC (i := 2) (by decide) h1 1 rfl (n := 72) rfl dX7_hasRoomFor_10 ?_
  refine lv_icmp_gt (tgt := 18) B.1 B.2.1 dX7_hasRoomFor_11 (by decide) (fun c_11 => ?_) (fun c_11 => ?_)
  · have q_11 : 72 < ((tn v) + n) := (nI_ltI (by omega) (by omega)).mp c_11
    refine lv_iconst (v := nI 0) B.1 B.2.1 dX7_hasRoomFor_18 (by decide) ?_
    exact r_eZ B hC (v := nI 0) (rfl) (⟨by rw [decide_eq_false (show ¬ tn v + n ≤ 72 by omega)]; rfl, rfl⟩) dX7_hasRoomFor_19
  · have q_11 : ¬ 72 < ((tn v) + n) := fun z => c_11 ((nI_ltI (by omega) (by omega)).mpr z)
    refine lv_iconst (v := nI 1) B.1 B.2.1 dX7_hasRoomFor_14 (by decide) ?_
    refine lv_goto (tgt := 19) B.1 B.2.1 dX7_hasRoomFor_15 (by decide) ?_
    exact r_eZ B hC (v := nI 1) (rfl) (⟨by rw [decide_eq_true (show tn v + n ≤ 72 by omega)]; rfl, rfl⟩) dX7_hasRoomFor_19
theorem iwX7_size_X7 : ∀ w ∈ u_ws RX7 TX7 2, w ∈ wsX7_size := by decide +kernel
theorem flX7_size_15 : Cond.fieldLink RX7 15 RX7 (TX7 1).2.1 (TX7 1).2.2.1 ∈ wsX7_size := by decide +kernel
set_option maxHeartbeats 4000000 in
set_option maxRecDepth 100000 in
theorem ctX7_size (l : Launch) (g : Gx) (lo : Nat) (ad : Nat → Nat) {F : Nat → va_E} {v : TV} (hT : TextC g ad F v) (ok : TOK v) : MI l g lo 196 ad yX7_size wsX7_size 0 0 [.ref (ad (1))] F (fun r F' => r = nI (tn v) ∧ F' = F) := by
  obtain ⟨h0, h1⟩ := id hT
  have okn := ok.1
  refine enter (cc := cX7_size) (maxL := 1) (ret := some .int) (own := RX7) (by decide +kernel) rfl rfl (Nat.le_of_ble_eq_true rfl) ?_
  intro pp ee ss mm below meth cc B hini hC ls hl
  have hl : lv_has ls 1 [(0, .ref (ad (1)))] := hl
  refine lv_aload_n B.1 B.2.1 dX7_size_0 rfl (lv_at hl 0 rfl) ?_
  refine r_cg B hC (i := 1) (by decide) h0 (C := RX7) (T := TX7) (n := 2) rfl iwX7_size_X7 1 (by decide) (index := 15) flX7_size_15 rfl (v := .int (nI (tn v))) rfl dX7_size_1 ?_
  exact r_eI B hC (v := nI (tn v)) (⟨rfl, rfl⟩) dX7_size_4
theorem iwX7_clear_X7 : ∀ w ∈ u_ws RX7 TX7 2, w ∈ wsX7_clear := by decide +kernel
theorem flX7_clear_15 : Cond.fieldLink RX7 15 RX7 (TX7 1).2.1 (TX7 1).2.2.1 ∈ wsX7_clear := by decide +kernel
set_option maxHeartbeats 4000000 in
set_option maxRecDepth 100000 in
theorem ctX7_clear (l : Launch) (g : Gx) (lo : Nat) (ad : Nat → Nat) {F : Nat → va_E} {v : TV} (hT : TextC g ad F v) (ok : TOK v) : MV l g lo 196 ad yX7_clear wsX7_clear 0 0 [.ref (ad (1))] F (fun F' => TextC g ad F' (tb v, 0) ∧ Same 1 3 F F') := by
  obtain ⟨h0, h1⟩ := id hT
  have okn := ok.1
  refine enter (cc := cX7_clear) (maxL := 1) (ret := none) (own := RX7) (by decide +kernel) rfl rfl (Nat.le_of_ble_eq_true rfl) ?_
  intro pp ee ss mm below meth cc B hini hC ls hl
  have hl : lv_has ls 1 [(0, .ref (ad (1)))] := hl
  refine lv_aload_n B.1 B.2.1 dX7_clear_0 rfl (lv_at hl 0 rfl) ?_
  refine lv_iconst (v := nI 0) B.1 B.2.1 dX7_clear_1 (by decide) ?_
  refine r_cp B hC (i := 1) (by decide) h0 tyX7 tyX7_ok nmX7 (C := RX7) (T := TX7) rfl iwX7_clear_X7 1 (by decide) (index := 15) flX7_clear_15 rfl rfl (v := .int (nI 0)) (rfl) (rfl) (Nat.le_of_ble_eq_true rfl) dX7_clear_2 ?_
  intro H locs hC
  obtain ⟨F1, eF1⟩ : ∃ f : Nat → va_E, f = va_up F (1) (.inr (7, [.ref (ad (2)), .int (nI 0)])) := ⟨_, rfl⟩
  have hC : Cu g lo 196 ad F1 ss ss.heap H locs := by rw [eF1]; exact hC
  have k1_F1 : F1 1 = .inr (7, [.ref (ad (2)), .int (nI 0)]) := by rw [eF1]; exact va_up_self _ _ _
  have h1_F1 : F1 2 = .inl (g.2.2 1, 72, .inl (fun j => sB (tb v j))) := by rw [eF1, va_up_ne _ _ (by decide)]; exact h1
  exact r_eV B hC (⟨⟨k1_F1, h1_F1⟩, (by rw [eF1]; exact Same.up Same.rf (by omega) (by omega))⟩) dX7_clear_5
set_option maxHeartbeats 4000000 in
set_option maxRecDepth 100000 in
theorem ctX7_faultInHead (l : Launch) (g : Gx) (lo : Nat) (ad : Nat → Nat) {F : Nat → va_E} {v : TV} (hT : TextC g ad F v) (ok : TOK v) : MI l g lo 196 ad yX7_faultInHead wsX7_faultInHead 3 65 [.ref (ad (1))] F (fun r F' => r = oI (fHead v) ∧ F' = F) := by
  obtain ⟨h0, h1⟩ := id hT
  have okn := ok.1
  refine enter (cc := cX7_faultInHead) (maxL := 2) (ret := some .int) (own := RX7) (by decide +kernel) rfl rfl (Nat.le_of_ble_eq_true rfl) ?_
  intro pp ee ss mm below meth cc B hini hC ls hl
  have hl : lv_has ls 2 [(0, .ref (ad (1)))] := hl
  refine lv_aload_n B.1 B.2.1 dX7_faultInHead_0 rfl (lv_at hl 0 rfl) ?_
  refine lv_iconst (v := nI 0) B.1 B.2.1 dX7_faultInHead_1 (by decide) ?_
  refine r_calli B hC hl.1 (1) 7 rfl rfl (by decide) h0 (As := [.int (nI 0)]) (ctX7_byteAt l g lo ad hT ok (i := 0) (by omega)) gX7_faultInHead_X7_byteAt rfl (n := 1) rfl (by decide +kernel) ⟨Nat.le_of_ble_eq_true rfl, Nat.le_of_ble_eq_true rfl⟩ ⟨Nat.zero_le _, Nat.zero_le _⟩ rfl (Nat.le_of_ble_eq_true rfl) dX7_faultInHead_2 (fun r2 F1 H locs hp2 hC => ?_)
  obtain ⟨er, eF⟩ := hp2
  subst er
  rw [eF] at hC
  refine lv_bipush (v := nI 83) B.1 B.2.1 dX7_faultInHead_5 (by decide) ?_
  refine lv_icmp_eq (tgt := 12) B.1 B.2.1 dX7_faultInHead_7 (by decide) (fun c_7 => ?_) (fun c_7 => ?_)
  · have q_7 := (y1_eq ok (i := 0) (k := 83) (by decide)).mp c_7
    refine lv_aload_n B.1 B.2.1 dX7_faultInHead_12 rfl (lv_at hl 0 rfl) ?_
    refine lv_iconst (v := nI 1) B.1 B.2.1 dX7_faultInHead_13 (by decide) ?_
    refine lv_iconst (v := nI 0) B.1 B.2.1 dX7_faultInHead_14 (by decide) ?_
    refine lv_bipush (v := nI 9) B.1 B.2.1 dX7_faultInHead_15 (by decide) ?_
    refine r_tI (y := nI 10 - nI 1) (by decide) ?_
    refine r_calli B hC hl.1 (1) 7 rfl rfl (by decide) h0 (As := [.int (nI 1), .int (nI 0), .int (nI 10 - nI 1)]) (ctX7_isFigure l g lo ad hT ok (i := 1) (a := 0) (m := 10) (by omega) (by omega) (by omega)) gX7_faultInHead_X7_isFigure rfl (n := 3) rfl (by decide +kernel) ⟨Nat.le_of_ble_eq_true rfl, Nat.le_of_ble_eq_true rfl⟩ ⟨Nat.zero_le _, Nat.zero_le _⟩ rfl (Nat.le_of_ble_eq_true rfl) dX7_faultInHead_17 (fun r17 F1 H locs hp17 hC => ?_)
    obtain ⟨er, eF⟩ := hp17
    subst er
    rw [eF] at hC
    refine lv_if_ne (tgt := 25) B.1 B.2.1 dX7_faultInHead_20 (by decide) (fun c_20 => ?_) (fun c_20 => ?_)
    · have q_20 : (isFig v 1 0 10) = true := bI_t.mp c_20
      refine lv_aload_n B.1 B.2.1 dX7_faultInHead_25 rfl (lv_at hl 0 rfl) ?_
      refine lv_iconst (v := nI 2) B.1 B.2.1 dX7_faultInHead_26 (by decide) ?_
      refine lv_iconst (v := nI 0) B.1 B.2.1 dX7_faultInHead_27 (by decide) ?_
      refine lv_bipush (v := nI 9) B.1 B.2.1 dX7_faultInHead_28 (by decide) ?_
      refine r_tI (y := nI 10 - nI 1) (by decide) ?_
      refine r_calli B hC hl.1 (1) 7 rfl rfl (by decide) h0 (As := [.int (nI 2), .int (nI 0), .int (nI 10 - nI 1)]) (ctX7_isFigure l g lo ad hT ok (i := 2) (a := 0) (m := 10) (by omega) (by omega) (by omega)) gX7_faultInHead_X7_isFigure rfl (n := 3) rfl (by decide +kernel) ⟨Nat.le_of_ble_eq_true rfl, Nat.le_of_ble_eq_true rfl⟩ ⟨Nat.zero_le _, Nat.zero_le _⟩ rfl (Nat.le_of_ble_eq_true rfl) dX7_faultInHead_30 (fun r30 F1 H locs hp30 hC => ?_)
      obtain ⟨er, eF⟩ := hp30
      subst er
      rw [eF] at hC
      refine lv_if_ne (tgt := 38) B.1 B.2.1 dX7_faultInHead_33 (by decide) (fun c_33 => ?_) (fun c_33 => ?_)
      · have q_33 : (isFig v 2 0 10) = true := bI_t.mp c_33
        refine lv_aload_n B.1 B.2.1 dX7_faultInHead_38 rfl (lv_at hl 0 rfl) ?_
        refine lv_iconst (v := nI 2) B.1 B.2.1 dX7_faultInHead_39 (by decide) ?_
        refine r_calli B hC hl.1 (1) 7 rfl rfl (by decide) h0 (As := [.int (nI 2)]) (ctX7_figureAt l g lo ad hT ok (i := 2) (by omega)) gX7_faultInHead_X7_figureAt rfl (n := 1) rfl (by decide +kernel) ⟨Nat.le_of_ble_eq_true rfl, Nat.le_of_ble_eq_true rfl⟩ ⟨Nat.zero_le _, Nat.zero_le _⟩ rfl (Nat.le_of_ble_eq_true rfl) dX7_faultInHead_40 (fun r40 F1 H locs hp40 hC => ?_)
        obtain ⟨er, eF⟩ := hp40
        subst er
        rw [eF] at hC
        refine lv_if_ne (tgt := 50) B.1 B.2.1 dX7_faultInHead_43 (by decide) (fun c_43 => ?_) (fun c_43 => ?_)
        · have q_43 : ¬ tat v 2 = some 48 := fun z => c_43 ((y1_48 ok).mpr z)
          refine lv_iconst (v := nI 0) B.1 B.2.1 dX7_faultInHead_50 (by decide) ?_
          refine lv_istore_n (lv' := [(1, .int (nI 0)), (0, .ref (ad (1)))]) B.1 B.2.1 dX7_faultInHead_51 rfl hl (by decide) rfl (fun ls hl => ?_)
          refine lv_aload_n B.1 B.2.1 dX7_faultInHead_52 rfl (lv_at hl 1 rfl) ?_
          refine lv_iconst (v := nI 3) B.1 B.2.1 dX7_faultInHead_53 (by decide) ?_
          refine lv_iload_n B.1 B.2.1 dX7_faultInHead_54 rfl (lv_at hl 0 rfl) ?_
          refine lv_bipush (v := nI 9) B.1 B.2.1 dX7_faultInHead_55 (by decide) ?_
          refine r_tI (y := nI 10 - nI 1) (by decide) ?_
          refine r_calli B hC hl.1 (1) 7 rfl rfl (by decide) h0 (As := [.int (nI 3), .int (nI 0), .int (nI 10 - nI 1)]) (ctX7_isFigure l g lo ad hT ok (i := 3) (a := 0) (m := 10) (by omega) (by omega) (by omega)) gX7_faultInHead_X7_isFigure rfl (n := 3) rfl (by decide +kernel) ⟨Nat.le_of_ble_eq_true rfl, Nat.le_of_ble_eq_true rfl⟩ ⟨Nat.zero_le _, Nat.zero_le _⟩ rfl (Nat.le_of_ble_eq_true rfl) dX7_faultInHead_57 (fun r57 F1 H locs hp57 hC => ?_)
          obtain ⟨er, eF⟩ := hp57
          subst er
          rw [eF] at hC
          refine lv_if_eq (tgt := 68) B.1 B.2.1 dX7_faultInHead_60 (by decide) (fun c_60 => ?_) (fun c_60 => ?_)
          · have q_60 : (isFig v 3 0 10) = false := bI_f.mp c_60
            refine lv_iconst (v := nI 3) B.1 B.2.1 dX7_faultInHead_68 (by decide) ?_
            exact r_eI B hC (v := nI 3) (⟨by simp_all [fHead, oI], rfl⟩) dX7_faultInHead_69
          · have q_60 : (isFig v 3 0 10) = true := bI_t.mp c_60
            refine lv_bipush (v := (-9)) B.1 B.2.1 dX7_faultInHead_63 (by decide) ?_
            refine lv_goto (tgt := 69) B.1 B.2.1 dX7_faultInHead_65 (by decide) ?_
            exact r_eI B hC (v := (-9)) (⟨by simp_all [fHead, oI], rfl⟩) dX7_faultInHead_69
        · have q_43 := (y1_48 ok).mp c_43
          refine lv_iconst (v := nI 1) B.1 B.2.1 dX7_faultInHead_46 (by decide) ?_
          refine lv_goto (tgt := 51) B.1 B.2.1 dX7_faultInHead_47 (by decide) ?_
          refine lv_istore_n (lv' := [(1, .int (nI 1)), (0, .ref (ad (1)))]) B.1 B.2.1 dX7_faultInHead_51 rfl hl (by decide) rfl (fun ls hl => ?_)
          refine lv_aload_n B.1 B.2.1 dX7_faultInHead_52 rfl (lv_at hl 1 rfl) ?_
          refine lv_iconst (v := nI 3) B.1 B.2.1 dX7_faultInHead_53 (by decide) ?_
          refine lv_iload_n B.1 B.2.1 dX7_faultInHead_54 rfl (lv_at hl 0 rfl) ?_
          refine lv_bipush (v := nI 9) B.1 B.2.1 dX7_faultInHead_55 (by decide) ?_
          refine r_tI (y := nI 10 - nI 1) (by decide) ?_
          refine r_calli B hC hl.1 (1) 7 rfl rfl (by decide) h0 (As := [.int (nI 3), .int (nI 1), .int (nI 10 - nI 1)]) (ctX7_isFigure l g lo ad hT ok (i := 3) (a := 1) (m := 10) (by omega) (by omega) (by omega)) gX7_faultInHead_X7_isFigure rfl (n := 3) rfl (by decide +kernel) ⟨Nat.le_of_ble_eq_true rfl, Nat.le_of_ble_eq_true rfl⟩ ⟨Nat.zero_le _, Nat.zero_le _⟩ rfl (Nat.le_of_ble_eq_true rfl) dX7_faultInHead_57 (fun r57 F1 H locs hp57 hC => ?_)
          obtain ⟨er, eF⟩ := hp57
          subst er
          rw [eF] at hC
          refine lv_if_eq (tgt := 68) B.1 B.2.1 dX7_faultInHead_60 (by decide) (fun c_60 => ?_) (fun c_60 => ?_)
          · have q_60 : (isFig v 3 1 10) = false := bI_f.mp c_60
            refine lv_iconst (v := nI 3) B.1 B.2.1 dX7_faultInHead_68 (by decide) ?_
            exact r_eI B hC (v := nI 3) (⟨by simp_all [fHead, oI], rfl⟩) dX7_faultInHead_69
          · have q_60 : (isFig v 3 1 10) = true := bI_t.mp c_60
            refine lv_bipush (v := (-9)) B.1 B.2.1 dX7_faultInHead_63 (by decide) ?_
            refine lv_goto (tgt := 69) B.1 B.2.1 dX7_faultInHead_65 (by decide) ?_
            exact r_eI B hC (v := (-9)) (⟨by simp_all [fHead, oI], rfl⟩) dX7_faultInHead_69
      · have q_33 : (isFig v 2 0 10) = false := bI_f.mp c_33
        refine lv_iconst (v := nI 2) B.1 B.2.1 dX7_faultInHead_36 (by decide) ?_
        exact r_eI B hC (v := nI 2) (⟨by simp_all [fHead, oI], rfl⟩) dX7_faultInHead_37
    · have q_20 : (isFig v 1 0 10) = false := bI_f.mp c_20
      refine lv_iconst (v := nI 1) B.1 B.2.1 dX7_faultInHead_23 (by decide) ?_
      exact r_eI B hC (v := nI 1) (⟨by simp_all [fHead, oI], rfl⟩) dX7_faultInHead_24
  · have q_7 : ¬ tat v 0 = some 83 := fun z => c_7 ((y1_eq ok (by decide)).mpr z)
    refine lv_iconst (v := nI 0) B.1 B.2.1 dX7_faultInHead_10 (by decide) ?_
    exact r_eI B hC (v := nI 0) (⟨by simp_all [fHead, oI], rfl⟩) dX7_faultInHead_11
set_option maxHeartbeats 4000000 in
set_option maxRecDepth 100000 in
theorem ctX7_faultInTimber (l : Launch) (g : Gx) (lo : Nat) (ad : Nat → Nat) {F : Nat → va_E} {v : TV} (hT : TextC g ad F v) (ok : TOK v) {i : Nat} (hi : i < 900) : MI l g lo 196 ad yX7_faultInTimber wsX7_faultInTimber 3 65 [.ref (ad (1)), .int (nI i)] F (fun r F' => r = oI (fTimber v i) ∧ F' = F) := by
  obtain ⟨h0, h1⟩ := id hT
  have okn := ok.1
  refine enter (cc := cX7_faultInTimber) (maxL := 2) (ret := some .int) (own := RX7) (by decide +kernel) rfl rfl (Nat.le_of_ble_eq_true rfl) ?_
  intro pp ee ss mm below meth cc B hini hC ls hl
  have hl : lv_has ls 2 [(0, .ref (ad (1))), (1, .int (nI i))] := hl
  refine lv_aload_n B.1 B.2.1 dX7_faultInTimber_0 rfl (lv_at hl 0 rfl) ?_
  refine lv_iload_n B.1 B.2.1 dX7_faultInTimber_1 rfl (lv_at hl 1 rfl) ?_
  refine lv_iconst (v := nI 4) B.1 B.2.1 dX7_faultInTimber_2 (by decide) ?_
  refine lv_iadd B.1 B.2.1 dX7_faultInTimber_3 ?_
  refine r_tI (y := nI (i + 4)) (nI_add _ _) ?_
  refine lv_iconst (v := nI 0) B.1 B.2.1 dX7_faultInTimber_4 (by decide) ?_
  refine lv_iconst (v := nI 2) B.1 B.2.1 dX7_faultInTimber_5 (by decide) ?_
  refine r_tI (y := nI 3 - nI 1) (by decide) ?_
  refine r_calli B hC hl.1 (1) 7 rfl rfl (by decide) h0 (As := [.int (nI (i + 4)), .int (nI 0), .int (nI 3 - nI 1)]) (ctX7_isFigure l g lo ad hT ok (i := (i + 4)) (a := 0) (m := 3) (by omega) (by omega) (by omega)) gX7_faultInTimber_X7_isFigure rfl (n := 3) rfl (by decide +kernel) ⟨Nat.le_of_ble_eq_true rfl, Nat.le_of_ble_eq_true rfl⟩ ⟨Nat.zero_le _, Nat.zero_le _⟩ rfl (Nat.le_of_ble_eq_true rfl) dX7_faultInTimber_6 (fun r6 F1 H locs hp6 hC => ?_)
  obtain ⟨er, eF⟩ := hp6
  subst er
  rw [eF] at hC
  refine lv_if_ne (tgt := 16) B.1 B.2.1 dX7_faultInTimber_9 (by decide) (fun c_9 => ?_) (fun c_9 => ?_)
  · have q_9 : (isFig v (i + 4) 0 3) = true := bI_t.mp c_9
    refine lv_aload_n B.1 B.2.1 dX7_faultInTimber_16 rfl (lv_at hl 0 rfl) ?_
    refine lv_iload_n B.1 B.2.1 dX7_faultInTimber_17 rfl (lv_at hl 1 rfl) ?_
    refine lv_iconst (v := nI 5) B.1 B.2.1 dX7_faultInTimber_18 (by decide) ?_
    refine lv_iadd B.1 B.2.1 dX7_faultInTimber_19 ?_
    refine r_tI (y := nI (i + 5)) (nI_add _ _) ?_
    refine lv_iconst (v := nI 0) B.1 B.2.1 dX7_faultInTimber_20 (by decide) ?_
    refine lv_bipush (v := nI 9) B.1 B.2.1 dX7_faultInTimber_21 (by decide) ?_
    refine r_tI (y := nI 10 - nI 1) (by decide) ?_
    refine r_calli B hC hl.1 (1) 7 rfl rfl (by decide) h0 (As := [.int (nI (i + 5)), .int (nI 0), .int (nI 10 - nI 1)]) (ctX7_isFigure l g lo ad hT ok (i := (i + 5)) (a := 0) (m := 10) (by omega) (by omega) (by omega)) gX7_faultInTimber_X7_isFigure rfl (n := 3) rfl (by decide +kernel) ⟨Nat.le_of_ble_eq_true rfl, Nat.le_of_ble_eq_true rfl⟩ ⟨Nat.zero_le _, Nat.zero_le _⟩ rfl (Nat.le_of_ble_eq_true rfl) dX7_faultInTimber_23 (fun r23 F1 H locs hp23 hC => ?_)
    obtain ⟨er, eF⟩ := hp23
    subst er
    rw [eF] at hC
    refine lv_if_eq (tgt := 34) B.1 B.2.1 dX7_faultInTimber_26 (by decide) (fun c_26 => ?_) (fun c_26 => ?_)
    · have q_26 : (isFig v (i + 5) 0 10) = false := bI_f.mp c_26
      refine lv_iload_n B.1 B.2.1 dX7_faultInTimber_34 rfl (lv_at hl 1 rfl) ?_
      refine lv_iconst (v := nI 5) B.1 B.2.1 dX7_faultInTimber_35 (by decide) ?_
      refine lv_iadd B.1 B.2.1 dX7_faultInTimber_36 ?_
      refine r_tI (y := nI (i + 5)) (nI_add _ _) ?_
      exact r_eI B hC (v := nI (i + 5)) (⟨by simp [fTimber, oI, *], rfl⟩) dX7_faultInTimber_37
    · have q_26 : (isFig v (i + 5) 0 10) = true := bI_t.mp c_26
      refine lv_bipush (v := (-9)) B.1 B.2.1 dX7_faultInTimber_29 (by decide) ?_
      refine lv_goto (tgt := 37) B.1 B.2.1 dX7_faultInTimber_31 (by decide) ?_
      exact r_eI B hC (v := (-9)) (⟨by simp [fTimber, oI, *], rfl⟩) dX7_faultInTimber_37
  · have q_9 : (isFig v (i + 4) 0 3) = false := bI_f.mp c_9
    refine lv_iload_n B.1 B.2.1 dX7_faultInTimber_12 rfl (lv_at hl 1 rfl) ?_
    refine lv_iconst (v := nI 4) B.1 B.2.1 dX7_faultInTimber_13 (by decide) ?_
    refine lv_iadd B.1 B.2.1 dX7_faultInTimber_14 ?_
    refine r_tI (y := nI (i + 4)) (nI_add _ _) ?_
    exact r_eI B hC (v := nI (i + 4)) (⟨by simp [fTimber, oI, *], rfl⟩) dX7_faultInTimber_15
set_option maxHeartbeats 4000000 in
set_option maxRecDepth 100000 in
theorem ctX7_faultInPlace (l : Launch) (g : Gx) (lo : Nat) (ad : Nat → Nat) {F : Nat → va_E} {v : TV} (hT : TextC g ad F v) (ok : TOK v) {i p : Nat} (hi : i < 900) (hp : p ≤ 10) : MI l g lo 196 ad yX7_faultInPlace wsX7_faultInPlace 4 86 [.ref (ad (1)), .int (nI i), .int (nI p)] F (fun r F' => r = oI (fPlace v i p) ∧ F' = F) := by
  obtain ⟨h0, h1⟩ := id hT
  have okn := ok.1
  refine enter (cc := cX7_faultInPlace) (maxL := 3) (ret := some .int) (own := RX7) (by decide +kernel) rfl rfl (Nat.le_of_ble_eq_true rfl) ?_
  intro pp ee ss mm below meth cc B hini hC ls hl
  have hl : lv_has ls 3 [(0, .ref (ad (1))), (1, .int (nI i)), (2, .int (nI p))] := hl
  refine lv_aload_n B.1 B.2.1 dX7_faultInPlace_0 rfl (lv_at hl 0 rfl) ?_
  refine lv_iload_n B.1 B.2.1 dX7_faultInPlace_1 rfl (lv_at hl 1 rfl) ?_
  refine r_calli B hC hl.1 (1) 7 rfl rfl (by decide) h0 (As := [.int (nI i)]) (ctX7_isFilledPlace l g lo ad hT ok (i := i) (by omega)) gX7_faultInPlace_X7_isFilledPlace rfl (n := 1) rfl (by decide +kernel) ⟨Nat.le_of_ble_eq_true rfl, Nat.le_of_ble_eq_true rfl⟩ ⟨Nat.zero_le _, Nat.zero_le _⟩ rfl (Nat.le_of_ble_eq_true rfl) dX7_faultInPlace_2 (fun r2 F1 H locs hp2 hC => ?_)
  obtain ⟨er, eF⟩ := hp2
  subst er
  rw [eF] at hC
  refine lv_if_ne (tgt := 20) B.1 B.2.1 dX7_faultInPlace_5 (by decide) (fun c_5 => ?_) (fun c_5 => ?_)
  · have q_5 : (decide (tat v i = some 80)) = true := bI_t.mp c_5
    refine lv_aload_n B.1 B.2.1 dX7_faultInPlace_20 rfl (lv_at hl 0 rfl) ?_
    refine lv_iload_n B.1 B.2.1 dX7_faultInPlace_21 rfl (lv_at hl 1 rfl) ?_
    refine lv_iconst (v := nI 1) B.1 B.2.1 dX7_faultInPlace_22 (by decide) ?_
    refine lv_iadd B.1 B.2.1 dX7_faultInPlace_23 ?_
    refine r_tI (y := nI (i + 1)) (nI_add _ _) ?_
    refine lv_iconst (v := nI 1) B.1 B.2.1 dX7_faultInPlace_24 (by decide) ?_
    refine lv_bipush (v := nI 9) B.1 B.2.1 dX7_faultInPlace_25 (by decide) ?_
    refine r_tI (y := nI 10 - nI 1) (by decide) ?_
    refine r_calli B hC hl.1 (1) 7 rfl rfl (by decide) h0 (As := [.int (nI (i + 1)), .int (nI 1), .int (nI 10 - nI 1)]) (ctX7_isFigure l g lo ad hT ok (i := (i + 1)) (a := 1) (m := 10) (by omega) (by omega) (by omega)) gX7_faultInPlace_X7_isFigure rfl (n := 3) rfl (by decide +kernel) ⟨Nat.le_of_ble_eq_true rfl, Nat.le_of_ble_eq_true rfl⟩ ⟨Nat.zero_le _, Nat.zero_le _⟩ rfl (Nat.le_of_ble_eq_true rfl) dX7_faultInPlace_27 (fun r27 F1 H locs hp27 hC => ?_)
    obtain ⟨er, eF⟩ := hp27
    subst er
    rw [eF] at hC
    refine lv_if_ne (tgt := 37) B.1 B.2.1 dX7_faultInPlace_30 (by decide) (fun c_30 => ?_) (fun c_30 => ?_)
    · have q_30 : (isFig v (i + 1) 1 10) = true := bI_t.mp c_30
      refine lv_aload_n B.1 B.2.1 dX7_faultInPlace_37 rfl (lv_at hl 0 rfl) ?_
      refine lv_iload_n B.1 B.2.1 dX7_faultInPlace_38 rfl (lv_at hl 1 rfl) ?_
      refine lv_iconst (v := nI 2) B.1 B.2.1 dX7_faultInPlace_39 (by decide) ?_
      refine lv_iadd B.1 B.2.1 dX7_faultInPlace_40 ?_
      refine r_tI (y := nI (i + 2)) (nI_add _ _) ?_
      refine lv_iconst (v := nI 0) B.1 B.2.1 dX7_faultInPlace_41 (by decide) ?_
      refine lv_bipush (v := nI 9) B.1 B.2.1 dX7_faultInPlace_42 (by decide) ?_
      refine r_tI (y := nI 10 - nI 1) (by decide) ?_
      refine r_calli B hC hl.1 (1) 7 rfl rfl (by decide) h0 (As := [.int (nI (i + 2)), .int (nI 0), .int (nI 10 - nI 1)]) (ctX7_isFigure l g lo ad hT ok (i := (i + 2)) (a := 0) (m := 10) (by omega) (by omega) (by omega)) gX7_faultInPlace_X7_isFigure rfl (n := 3) rfl (by decide +kernel) ⟨Nat.le_of_ble_eq_true rfl, Nat.le_of_ble_eq_true rfl⟩ ⟨Nat.zero_le _, Nat.zero_le _⟩ rfl (Nat.le_of_ble_eq_true rfl) dX7_faultInPlace_44 (fun r44 F1 H locs hp44 hC => ?_)
      obtain ⟨er, eF⟩ := hp44
      subst er
      rw [eF] at hC
      refine lv_if_ne (tgt := 54) B.1 B.2.1 dX7_faultInPlace_47 (by decide) (fun c_47 => ?_) (fun c_47 => ?_)
      · have q_47 : (isFig v (i + 2) 0 10) = true := bI_t.mp c_47
        refine lv_aload_n B.1 B.2.1 dX7_faultInPlace_54 rfl (lv_at hl 0 rfl) ?_
        refine lv_iload_n B.1 B.2.1 dX7_faultInPlace_55 rfl (lv_at hl 1 rfl) ?_
        refine lv_iconst (v := nI 3) B.1 B.2.1 dX7_faultInPlace_56 (by decide) ?_
        refine lv_iadd B.1 B.2.1 dX7_faultInPlace_57 ?_
        refine r_tI (y := nI (i + 3)) (nI_add _ _) ?_
        refine r_calli B hC hl.1 (1) 7 rfl rfl (by decide) h0 (As := [.int (nI (i + 3))]) (ctX7_byteAt l g lo ad hT ok (i := (i + 3)) (by omega)) gX7_faultInPlace_X7_byteAt rfl (n := 1) rfl (by decide +kernel) ⟨Nat.le_of_ble_eq_true rfl, Nat.le_of_ble_eq_true rfl⟩ ⟨Nat.zero_le _, Nat.zero_le _⟩ rfl (Nat.le_of_ble_eq_true rfl) dX7_faultInPlace_58 (fun r58 F1 H locs hp58 hC => ?_)
        obtain ⟨er, eF⟩ := hp58
        subst er
        rw [eF] at hC
        refine lv_bipush (v := nI 45) B.1 B.2.1 dX7_faultInPlace_61 (by decide) ?_
        refine lv_icmp_eq (tgt := 84) B.1 B.2.1 dX7_faultInPlace_63 (by decide) (fun c_63 => ?_) (fun c_63 => ?_)
        · have q_63 := (y1_eq ok (i := i + 3) (k := 45) (by decide)).mp c_63
          refine lv_aload_n B.1 B.2.1 dX7_faultInPlace_84 rfl (lv_at hl 0 rfl) ?_
          refine lv_iload_n B.1 B.2.1 dX7_faultInPlace_85 rfl (lv_at hl 1 rfl) ?_
          refine r_calli B hC hl.1 (1) 7 rfl rfl (by decide) h0 (As := [.int (nI i)]) (ctX7_isFilledPlace l g lo ad hT ok (i := i) (by omega)) gX7_faultInPlace_X7_isFilledPlace rfl (n := 1) rfl (by decide +kernel) ⟨Nat.le_of_ble_eq_true rfl, Nat.le_of_ble_eq_true rfl⟩ ⟨Nat.zero_le _, Nat.zero_le _⟩ rfl (Nat.le_of_ble_eq_true rfl) dX7_faultInPlace_86 (fun r86 F1 H locs hp86 hC => ?_)
          obtain ⟨er, eF⟩ := hp86
          subst er
          rw [eF] at hC
          refine lv_if_eq (tgt := 100) B.1 B.2.1 dX7_faultInPlace_89 (by decide) (fun c_89 => ?_) (fun c_89 => ?_)
          · have q_89 : (decide (tat v i = some 80)) = false := bI_f.mp c_89
            refine lv_bipush (v := (-9)) B.1 B.2.1 dX7_faultInPlace_100 (by decide) ?_
            exact r_eI B hC (v := (-9)) (⟨by simp_all [fPlace, oI], rfl⟩) dX7_faultInPlace_102
          · have q_89 : (decide (tat v i = some 80)) = true := bI_t.mp c_89
            refine lv_aload_n B.1 B.2.1 dX7_faultInPlace_92 rfl (lv_at hl 0 rfl) ?_
            refine lv_iload_n B.1 B.2.1 dX7_faultInPlace_93 rfl (lv_at hl 1 rfl) ?_
            refine r_calli B hC hl.1 (1) 7 rfl rfl (by decide) h0 (As := [.int (nI i)]) (ctX7_faultInTimber l g lo ad hT ok (i := i) (by omega)) gX7_faultInPlace_X7_faultInTimber rfl (n := 1) rfl (by decide +kernel) ⟨Nat.le_of_ble_eq_true rfl, Nat.le_of_ble_eq_true rfl⟩ ⟨Nat.zero_le _, Nat.zero_le _⟩ rfl (Nat.le_of_ble_eq_true rfl) dX7_faultInPlace_94 (fun r94 F1 H locs hp94 hC => ?_)
            obtain ⟨er, eF⟩ := hp94
            subst er
            rw [eF] at hC
            refine lv_goto (tgt := 102) B.1 B.2.1 dX7_faultInPlace_97 (by decide) ?_
            exact r_eI B hC (v := oI (fTimber v i)) (⟨by simp_all [fPlace, oI], rfl⟩) dX7_faultInPlace_102
        · have q_63 : ¬ tat v (i + 3) = some 45 := fun z => c_63 ((y1_eq ok (by decide)).mpr z)
          refine lv_aload_n B.1 B.2.1 dX7_faultInPlace_66 rfl (lv_at hl 0 rfl) ?_
          refine lv_iload_n B.1 B.2.1 dX7_faultInPlace_67 rfl (lv_at hl 1 rfl) ?_
          refine lv_iconst (v := nI 3) B.1 B.2.1 dX7_faultInPlace_68 (by decide) ?_
          refine lv_iadd B.1 B.2.1 dX7_faultInPlace_69 ?_
          refine r_tI (y := nI (i + 3)) (nI_add _ _) ?_
          refine lv_iconst (v := nI 0) B.1 B.2.1 dX7_faultInPlace_70 (by decide) ?_
          refine lv_iload_n B.1 B.2.1 dX7_faultInPlace_71 rfl (lv_at hl 2 rfl) ?_
          refine lv_iconst (v := nI 1) B.1 B.2.1 dX7_faultInPlace_72 (by decide) ?_
          refine lv_isub B.1 B.2.1 dX7_faultInPlace_73 ?_
          refine r_tI (y := nI p - nI 1) (rfl) ?_
          refine r_calli B hC hl.1 (1) 7 rfl rfl (by decide) h0 (As := [.int (nI (i + 3)), .int (nI 0), .int (nI p - nI 1)]) (ctX7_isFigure l g lo ad hT ok (i := (i + 3)) (a := 0) (m := p) (by omega) (by omega) (by omega)) gX7_faultInPlace_X7_isFigure rfl (n := 3) rfl (by decide +kernel) ⟨Nat.le_of_ble_eq_true rfl, Nat.le_of_ble_eq_true rfl⟩ ⟨Nat.zero_le _, Nat.zero_le _⟩ rfl (Nat.le_of_ble_eq_true rfl) dX7_faultInPlace_74 (fun r74 F1 H locs hp74 hC => ?_)
          obtain ⟨er, eF⟩ := hp74
          subst er
          rw [eF] at hC
          refine lv_if_ne (tgt := 84) B.1 B.2.1 dX7_faultInPlace_77 (by decide) (fun c_77 => ?_) (fun c_77 => ?_)
          · have q_77 : (isFig v (i + 3) 0 p) = true := bI_t.mp c_77
            refine lv_aload_n B.1 B.2.1 dX7_faultInPlace_84 rfl (lv_at hl 0 rfl) ?_
            refine lv_iload_n B.1 B.2.1 dX7_faultInPlace_85 rfl (lv_at hl 1 rfl) ?_
            refine r_calli B hC hl.1 (1) 7 rfl rfl (by decide) h0 (As := [.int (nI i)]) (ctX7_isFilledPlace l g lo ad hT ok (i := i) (by omega)) gX7_faultInPlace_X7_isFilledPlace rfl (n := 1) rfl (by decide +kernel) ⟨Nat.le_of_ble_eq_true rfl, Nat.le_of_ble_eq_true rfl⟩ ⟨Nat.zero_le _, Nat.zero_le _⟩ rfl (Nat.le_of_ble_eq_true rfl) dX7_faultInPlace_86 (fun r86 F1 H locs hp86 hC => ?_)
            obtain ⟨er, eF⟩ := hp86
            subst er
            rw [eF] at hC
            refine lv_if_eq (tgt := 100) B.1 B.2.1 dX7_faultInPlace_89 (by decide) (fun c_89 => ?_) (fun c_89 => ?_)
            · have q_89 : (decide (tat v i = some 80)) = false := bI_f.mp c_89
              refine lv_bipush (v := (-9)) B.1 B.2.1 dX7_faultInPlace_100 (by decide) ?_
              exact r_eI B hC (v := (-9)) (⟨by simp_all [fPlace, oI], rfl⟩) dX7_faultInPlace_102
            · have q_89 : (decide (tat v i = some 80)) = true := bI_t.mp c_89
              refine lv_aload_n B.1 B.2.1 dX7_faultInPlace_92 rfl (lv_at hl 0 rfl) ?_
              refine lv_iload_n B.1 B.2.1 dX7_faultInPlace_93 rfl (lv_at hl 1 rfl) ?_
              refine r_calli B hC hl.1 (1) 7 rfl rfl (by decide) h0 (As := [.int (nI i)]) (ctX7_faultInTimber l g lo ad hT ok (i := i) (by omega)) gX7_faultInPlace_X7_faultInTimber rfl (n := 1) rfl (by decide +kernel) ⟨Nat.le_of_ble_eq_true rfl, Nat.le_of_ble_eq_true rfl⟩ ⟨Nat.zero_le _, Nat.zero_le _⟩ rfl (Nat.le_of_ble_eq_true rfl) dX7_faultInPlace_94 (fun r94 F1 H locs hp94 hC => ?_)
              obtain ⟨er, eF⟩ := hp94
              subst er
              rw [eF] at hC
              refine lv_goto (tgt := 102) B.1 B.2.1 dX7_faultInPlace_97 (by decide) ?_
              exact r_eI B hC (v := oI (fTimber v i)) (⟨by simp_all [fPlace, oI], rfl⟩) dX7_faultInPlace_102
          · have q_77 : (isFig v (i + 3) 0 p) = false := bI_f.mp c_77
            refine lv_iload_n B.1 B.2.1 dX7_faultInPlace_80 rfl (lv_at hl 1 rfl) ?_
            refine lv_iconst (v := nI 3) B.1 B.2.1 dX7_faultInPlace_81 (by decide) ?_
            refine lv_iadd B.1 B.2.1 dX7_faultInPlace_82 ?_
            refine r_tI (y := nI (i + 3)) (nI_add _ _) ?_
            exact r_eI B hC (v := nI (i + 3)) (⟨by simp_all [fPlace, oI], rfl⟩) dX7_faultInPlace_83
      · have q_47 : (isFig v (i + 2) 0 10) = false := bI_f.mp c_47
        refine lv_iload_n B.1 B.2.1 dX7_faultInPlace_50 rfl (lv_at hl 1 rfl) ?_
        refine lv_iconst (v := nI 2) B.1 B.2.1 dX7_faultInPlace_51 (by decide) ?_
        refine lv_iadd B.1 B.2.1 dX7_faultInPlace_52 ?_
        refine r_tI (y := nI (i + 2)) (nI_add _ _) ?_
        exact r_eI B hC (v := nI (i + 2)) (⟨by simp_all [fPlace, oI], rfl⟩) dX7_faultInPlace_53
    · have q_30 : (isFig v (i + 1) 1 10) = false := bI_f.mp c_30
      refine lv_iload_n B.1 B.2.1 dX7_faultInPlace_33 rfl (lv_at hl 1 rfl) ?_
      refine lv_iconst (v := nI 1) B.1 B.2.1 dX7_faultInPlace_34 (by decide) ?_
      refine lv_iadd B.1 B.2.1 dX7_faultInPlace_35 ?_
      refine r_tI (y := nI (i + 1)) (nI_add _ _) ?_
      exact r_eI B hC (v := nI (i + 1)) (⟨by simp_all [fPlace, oI], rfl⟩) dX7_faultInPlace_36
  · have q_5 : (decide (tat v i = some 80)) = false := bI_f.mp c_5
    refine lv_aload_n B.1 B.2.1 dX7_faultInPlace_8 rfl (lv_at hl 0 rfl) ?_
    refine lv_iload_n B.1 B.2.1 dX7_faultInPlace_9 rfl (lv_at hl 1 rfl) ?_
    refine r_calli B hC hl.1 (1) 7 rfl rfl (by decide) h0 (As := [.int (nI i)]) (ctX7_byteAt l g lo ad hT ok (i := i) (by omega)) gX7_faultInPlace_X7_byteAt rfl (n := 1) rfl (by decide +kernel) ⟨Nat.le_of_ble_eq_true rfl, Nat.le_of_ble_eq_true rfl⟩ ⟨Nat.zero_le _, Nat.zero_le _⟩ rfl (Nat.le_of_ble_eq_true rfl) dX7_faultInPlace_10 (fun r10 F1 H locs hp10 hC => ?_)
    obtain ⟨er, eF⟩ := hp10
    subst er
    rw [eF] at hC
    refine lv_bipush (v := nI 79) B.1 B.2.1 dX7_faultInPlace_13 (by decide) ?_
    refine lv_icmp_eq (tgt := 20) B.1 B.2.1 dX7_faultInPlace_15 (by decide) (fun c_15 => ?_) (fun c_15 => ?_)
    · have q_15 := (y1_eq ok (i := i) (k := 79) (by decide)).mp c_15
      refine lv_aload_n B.1 B.2.1 dX7_faultInPlace_20 rfl (lv_at hl 0 rfl) ?_
      refine lv_iload_n B.1 B.2.1 dX7_faultInPlace_21 rfl (lv_at hl 1 rfl) ?_
      refine lv_iconst (v := nI 1) B.1 B.2.1 dX7_faultInPlace_22 (by decide) ?_
      refine lv_iadd B.1 B.2.1 dX7_faultInPlace_23 ?_
      refine r_tI (y := nI (i + 1)) (nI_add _ _) ?_
      refine lv_iconst (v := nI 1) B.1 B.2.1 dX7_faultInPlace_24 (by decide) ?_
      refine lv_bipush (v := nI 9) B.1 B.2.1 dX7_faultInPlace_25 (by decide) ?_
      refine r_tI (y := nI 10 - nI 1) (by decide) ?_
      refine r_calli B hC hl.1 (1) 7 rfl rfl (by decide) h0 (As := [.int (nI (i + 1)), .int (nI 1), .int (nI 10 - nI 1)]) (ctX7_isFigure l g lo ad hT ok (i := (i + 1)) (a := 1) (m := 10) (by omega) (by omega) (by omega)) gX7_faultInPlace_X7_isFigure rfl (n := 3) rfl (by decide +kernel) ⟨Nat.le_of_ble_eq_true rfl, Nat.le_of_ble_eq_true rfl⟩ ⟨Nat.zero_le _, Nat.zero_le _⟩ rfl (Nat.le_of_ble_eq_true rfl) dX7_faultInPlace_27 (fun r27 F1 H locs hp27 hC => ?_)
      obtain ⟨er, eF⟩ := hp27
      subst er
      rw [eF] at hC
      refine lv_if_ne (tgt := 37) B.1 B.2.1 dX7_faultInPlace_30 (by decide) (fun c_30 => ?_) (fun c_30 => ?_)
      · have q_30 : (isFig v (i + 1) 1 10) = true := bI_t.mp c_30
        refine lv_aload_n B.1 B.2.1 dX7_faultInPlace_37 rfl (lv_at hl 0 rfl) ?_
        refine lv_iload_n B.1 B.2.1 dX7_faultInPlace_38 rfl (lv_at hl 1 rfl) ?_
        refine lv_iconst (v := nI 2) B.1 B.2.1 dX7_faultInPlace_39 (by decide) ?_
        refine lv_iadd B.1 B.2.1 dX7_faultInPlace_40 ?_
        refine r_tI (y := nI (i + 2)) (nI_add _ _) ?_
        refine lv_iconst (v := nI 0) B.1 B.2.1 dX7_faultInPlace_41 (by decide) ?_
        refine lv_bipush (v := nI 9) B.1 B.2.1 dX7_faultInPlace_42 (by decide) ?_
        refine r_tI (y := nI 10 - nI 1) (by decide) ?_
        refine r_calli B hC hl.1 (1) 7 rfl rfl (by decide) h0 (As := [.int (nI (i + 2)), .int (nI 0), .int (nI 10 - nI 1)]) (ctX7_isFigure l g lo ad hT ok (i := (i + 2)) (a := 0) (m := 10) (by omega) (by omega) (by omega)) gX7_faultInPlace_X7_isFigure rfl (n := 3) rfl (by decide +kernel) ⟨Nat.le_of_ble_eq_true rfl, Nat.le_of_ble_eq_true rfl⟩ ⟨Nat.zero_le _, Nat.zero_le _⟩ rfl (Nat.le_of_ble_eq_true rfl) dX7_faultInPlace_44 (fun r44 F1 H locs hp44 hC => ?_)
        obtain ⟨er, eF⟩ := hp44
        subst er
        rw [eF] at hC
        refine lv_if_ne (tgt := 54) B.1 B.2.1 dX7_faultInPlace_47 (by decide) (fun c_47 => ?_) (fun c_47 => ?_)
        · have q_47 : (isFig v (i + 2) 0 10) = true := bI_t.mp c_47
          refine lv_aload_n B.1 B.2.1 dX7_faultInPlace_54 rfl (lv_at hl 0 rfl) ?_
          refine lv_iload_n B.1 B.2.1 dX7_faultInPlace_55 rfl (lv_at hl 1 rfl) ?_
          refine lv_iconst (v := nI 3) B.1 B.2.1 dX7_faultInPlace_56 (by decide) ?_
          refine lv_iadd B.1 B.2.1 dX7_faultInPlace_57 ?_
          refine r_tI (y := nI (i + 3)) (nI_add _ _) ?_
          refine r_calli B hC hl.1 (1) 7 rfl rfl (by decide) h0 (As := [.int (nI (i + 3))]) (ctX7_byteAt l g lo ad hT ok (i := (i + 3)) (by omega)) gX7_faultInPlace_X7_byteAt rfl (n := 1) rfl (by decide +kernel) ⟨Nat.le_of_ble_eq_true rfl, Nat.le_of_ble_eq_true rfl⟩ ⟨Nat.zero_le _, Nat.zero_le _⟩ rfl (Nat.le_of_ble_eq_true rfl) dX7_faultInPlace_58 (fun r58 F1 H locs hp58 hC => ?_)
          obtain ⟨er, eF⟩ := hp58
          subst er
          rw [eF] at hC
          refine lv_bipush (v := nI 45) B.1 B.2.1 dX7_faultInPlace_61 (by decide) ?_
          refine lv_icmp_eq (tgt := 84) B.1 B.2.1 dX7_faultInPlace_63 (by decide) (fun c_63 => ?_) (fun c_63 => ?_)
          · have q_63 := (y1_eq ok (i := i + 3) (k := 45) (by decide)).mp c_63
            refine lv_aload_n B.1 B.2.1 dX7_faultInPlace_84 rfl (lv_at hl 0 rfl) ?_
            refine lv_iload_n B.1 B.2.1 dX7_faultInPlace_85 rfl (lv_at hl 1 rfl) ?_
            refine r_calli B hC hl.1 (1) 7 rfl rfl (by decide) h0 (As := [.int (nI i)]) (ctX7_isFilledPlace l g lo ad hT ok (i := i) (by omega)) gX7_faultInPlace_X7_isFilledPlace rfl (n := 1) rfl (by decide +kernel) ⟨Nat.le_of_ble_eq_true rfl, Nat.le_of_ble_eq_true rfl⟩ ⟨Nat.zero_le _, Nat.zero_le _⟩ rfl (Nat.le_of_ble_eq_true rfl) dX7_faultInPlace_86 (fun r86 F1 H locs hp86 hC => ?_)
            obtain ⟨er, eF⟩ := hp86
            subst er
            rw [eF] at hC
            refine lv_if_eq (tgt := 100) B.1 B.2.1 dX7_faultInPlace_89 (by decide) (fun c_89 => ?_) (fun c_89 => ?_)
            · have q_89 : (decide (tat v i = some 80)) = false := bI_f.mp c_89
              refine lv_bipush (v := (-9)) B.1 B.2.1 dX7_faultInPlace_100 (by decide) ?_
              exact r_eI B hC (v := (-9)) (⟨by simp_all [fPlace, oI], rfl⟩) dX7_faultInPlace_102
            · have q_89 : (decide (tat v i = some 80)) = true := bI_t.mp c_89
              refine lv_aload_n B.1 B.2.1 dX7_faultInPlace_92 rfl (lv_at hl 0 rfl) ?_
              refine lv_iload_n B.1 B.2.1 dX7_faultInPlace_93 rfl (lv_at hl 1 rfl) ?_
              refine r_calli B hC hl.1 (1) 7 rfl rfl (by decide) h0 (As := [.int (nI i)]) (ctX7_faultInTimber l g lo ad hT ok (i := i) (by omega)) gX7_faultInPlace_X7_faultInTimber rfl (n := 1) rfl (by decide +kernel) ⟨Nat.le_of_ble_eq_true rfl, Nat.le_of_ble_eq_true rfl⟩ ⟨Nat.zero_le _, Nat.zero_le _⟩ rfl (Nat.le_of_ble_eq_true rfl) dX7_faultInPlace_94 (fun r94 F1 H locs hp94 hC => ?_)
              obtain ⟨er, eF⟩ := hp94
              subst er
              rw [eF] at hC
              refine lv_goto (tgt := 102) B.1 B.2.1 dX7_faultInPlace_97 (by decide) ?_
              exact r_eI B hC (v := oI (fTimber v i)) (⟨by simp_all [fPlace, oI], rfl⟩) dX7_faultInPlace_102
          · have q_63 : ¬ tat v (i + 3) = some 45 := fun z => c_63 ((y1_eq ok (by decide)).mpr z)
            refine lv_aload_n B.1 B.2.1 dX7_faultInPlace_66 rfl (lv_at hl 0 rfl) ?_
            refine lv_iload_n B.1 B.2.1 dX7_faultInPlace_67 rfl (lv_at hl 1 rfl) ?_
            refine lv_iconst (v := nI 3) B.1 B.2.1 dX7_faultInPlace_68 (by decide) ?_
            refine lv_iadd B.1 B.2.1 dX7_faultInPlace_69 ?_
            refine r_tI (y := nI (i + 3)) (nI_add _ _) ?_
            refine lv_iconst (v := nI 0) B.1 B.2.1 dX7_faultInPlace_70 (by decide) ?_
            refine lv_iload_n B.1 B.2.1 dX7_faultInPlace_71 rfl (lv_at hl 2 rfl) ?_
            refine lv_iconst (v := nI 1) B.1 B.2.1 dX7_faultInPlace_72 (by decide) ?_
            refine lv_isub B.1 B.2.1 dX7_faultInPlace_73 ?_
            refine r_tI (y := nI p - nI 1) (rfl) ?_
            refine r_calli B hC hl.1 (1) 7 rfl rfl (by decide) h0 (As := [.int (nI (i + 3)), .int (nI 0), .int (nI p - nI 1)]) (ctX7_isFigure l g lo ad hT ok (i := (i + 3)) (a := 0) (m := p) (by omega) (by omega) (by omega)) gX7_faultInPlace_X7_isFigure rfl (n := 3) rfl (by decide +kernel) ⟨Nat.le_of_ble_eq_true rfl, Nat.le_of_ble_eq_true rfl⟩ ⟨Nat.zero_le _, Nat.zero_le _⟩ rfl (Nat.le_of_ble_eq_true rfl) dX7_faultInPlace_74 (fun r74 F1 H locs hp74 hC => ?_)
            obtain ⟨er, eF⟩ := hp74
            subst er
            rw [eF] at hC
            refine lv_if_ne (tgt := 84) B.1 B.2.1 dX7_faultInPlace_77 (by decide) (fun c_77 => ?_) (fun c_77 => ?_)
            · have q_77 : (isFig v (i + 3) 0 p) = true := bI_t.mp c_77
              refine lv_aload_n B.1 B.2.1 dX7_faultInPlace_84 rfl (lv_at hl 0 rfl) ?_
              refine lv_iload_n B.1 B.2.1 dX7_faultInPlace_85 rfl (lv_at hl 1 rfl) ?_
              refine r_calli B hC hl.1 (1) 7 rfl rfl (by decide) h0 (As := [.int (nI i)]) (ctX7_isFilledPlace l g lo ad hT ok (i := i) (by omega)) gX7_faultInPlace_X7_isFilledPlace rfl (n := 1) rfl (by decide +kernel) ⟨Nat.le_of_ble_eq_true rfl, Nat.le_of_ble_eq_true rfl⟩ ⟨Nat.zero_le _, Nat.zero_le _⟩ rfl (Nat.le_of_ble_eq_true rfl) dX7_faultInPlace_86 (fun r86 F1 H locs hp86 hC => ?_)
              obtain ⟨er, eF⟩ := hp86
              subst er
              rw [eF] at hC
              refine lv_if_eq (tgt := 100) B.1 B.2.1 dX7_faultInPlace_89 (by decide) (fun c_89 => ?_) (fun c_89 => ?_)
              · have q_89 : (decide (tat v i = some 80)) = false := bI_f.mp c_89
                refine lv_bipush (v := (-9)) B.1 B.2.1 dX7_faultInPlace_100 (by decide) ?_
                exact r_eI B hC (v := (-9)) (⟨by simp_all [fPlace, oI], rfl⟩) dX7_faultInPlace_102
              · have q_89 : (decide (tat v i = some 80)) = true := bI_t.mp c_89
                refine lv_aload_n B.1 B.2.1 dX7_faultInPlace_92 rfl (lv_at hl 0 rfl) ?_
                refine lv_iload_n B.1 B.2.1 dX7_faultInPlace_93 rfl (lv_at hl 1 rfl) ?_
                refine r_calli B hC hl.1 (1) 7 rfl rfl (by decide) h0 (As := [.int (nI i)]) (ctX7_faultInTimber l g lo ad hT ok (i := i) (by omega)) gX7_faultInPlace_X7_faultInTimber rfl (n := 1) rfl (by decide +kernel) ⟨Nat.le_of_ble_eq_true rfl, Nat.le_of_ble_eq_true rfl⟩ ⟨Nat.zero_le _, Nat.zero_le _⟩ rfl (Nat.le_of_ble_eq_true rfl) dX7_faultInPlace_94 (fun r94 F1 H locs hp94 hC => ?_)
                obtain ⟨er, eF⟩ := hp94
                subst er
                rw [eF] at hC
                refine lv_goto (tgt := 102) B.1 B.2.1 dX7_faultInPlace_97 (by decide) ?_
                exact r_eI B hC (v := oI (fTimber v i)) (⟨by simp_all [fPlace, oI], rfl⟩) dX7_faultInPlace_102
            · have q_77 : (isFig v (i + 3) 0 p) = false := bI_f.mp c_77
              refine lv_iload_n B.1 B.2.1 dX7_faultInPlace_80 rfl (lv_at hl 1 rfl) ?_
              refine lv_iconst (v := nI 3) B.1 B.2.1 dX7_faultInPlace_81 (by decide) ?_
              refine lv_iadd B.1 B.2.1 dX7_faultInPlace_82 ?_
              refine r_tI (y := nI (i + 3)) (nI_add _ _) ?_
              exact r_eI B hC (v := nI (i + 3)) (⟨by simp_all [fPlace, oI], rfl⟩) dX7_faultInPlace_83
        · have q_47 : (isFig v (i + 2) 0 10) = false := bI_f.mp c_47
          refine lv_iload_n B.1 B.2.1 dX7_faultInPlace_50 rfl (lv_at hl 1 rfl) ?_
          refine lv_iconst (v := nI 2) B.1 B.2.1 dX7_faultInPlace_51 (by decide) ?_
          refine lv_iadd B.1 B.2.1 dX7_faultInPlace_52 ?_
          refine r_tI (y := nI (i + 2)) (nI_add _ _) ?_
          exact r_eI B hC (v := nI (i + 2)) (⟨by simp_all [fPlace, oI], rfl⟩) dX7_faultInPlace_53
      · have q_30 : (isFig v (i + 1) 1 10) = false := bI_f.mp c_30
        refine lv_iload_n B.1 B.2.1 dX7_faultInPlace_33 rfl (lv_at hl 1 rfl) ?_
        refine lv_iconst (v := nI 1) B.1 B.2.1 dX7_faultInPlace_34 (by decide) ?_
        refine lv_iadd B.1 B.2.1 dX7_faultInPlace_35 ?_
        refine r_tI (y := nI (i + 1)) (nI_add _ _) ?_
        exact r_eI B hC (v := nI (i + 1)) (⟨by simp_all [fPlace, oI], rfl⟩) dX7_faultInPlace_36
    · have q_15 : ¬ tat v i = some 79 := fun z => c_15 ((y1_eq ok (by decide)).mpr z)
      refine lv_iload_n B.1 B.2.1 dX7_faultInPlace_18 rfl (lv_at hl 1 rfl) ?_
      exact r_eI B hC (v := nI i) (⟨by simp_all [fPlace, oI], rfl⟩) dX7_faultInPlace_19
theorem bop_le (v : TV) (i : Nat) : 4 ≤ bop v i ∧ bop v i ≤ 6 := by unfold bop; split <;> omega
theorem fTimber_le {v : TV} {i k : Nat} (h : fTimber v i = some k) : k ≤ i + 5 := by
  unfold fTimber at h
  split at h
  · split at h
    · cases h
    · cases h; omega
  · cases h; omega
theorem fPlace_le {v : TV} {i p k : Nat} (h : fPlace v i p = some k) : k ≤ i + 5 := by
  unfold fPlace at h
  split at h
  · split at h
    · split at h
      · split at h
        · split at h
          · exact fTimber_le h
          · cases h
        · cases h; omega
      · cases h; omega
    · cases h; omega
  · cases h; omega
theorem fHead_le {v : TV} {k : Nat} (h : fHead v = some k) : k ≤ 3 := by
  unfold fHead at h
  generalize (if tat v 2 = some 48 then 1 else 0) = lu at h
  split at h
  · split at h
    · split at h
      · split at h
        · cases h
        · cases h; omega
      · cases h; omega
    · cases h; omega
  · cases h; omega
/-- behind the head: k places at most from place p on, that would begin at i -/
def fRest (v : TV) : Nat → Nat → Nat → Option Nat
  | 0, _, i => if i < tn v then some i else none
  | k + 1, p, i => if i < tn v then (if fPlace v i p = none then fRest v k (p + 1) (i + bop v i) else fPlace v i p) else none
def fAll (v : TV) : Option Nat := if fHead v = none then fRest v 10 0 4 else fHead v
theorem iwX7_firstFault_X7 : ∀ w ∈ u_ws RX7 TX7 2, w ∈ wsX7_firstFault := by decide +kernel
theorem flX7_firstFault_15 : Cond.fieldLink RX7 15 RX7 (TX7 1).2.1 (TX7 1).2.2.1 ∈ wsX7_firstFault := by decide +kernel
set_option maxHeartbeats 4000000 in
set_option maxRecDepth 100000 in
theorem ctX7_firstFault (l : Launch) (g : Gx) (lo : Nat) (ad : Nat → Nat) {F : Nat → va_E} {v : TV} (hT : TextC g ad F v) (ok : TOK v) : MI l g lo 196 ad yX7_firstFault wsX7_firstFault 5 108 [.ref (ad (1))] F (fun r F' => r = oI (fAll v) ∧ F' = F) := by
  obtain ⟨h0, h1⟩ := id hT
  have okn := ok.1
  refine enter (cc := cX7_firstFault) (maxL := 5) (ret := some .int) (own := RX7) (by decide +kernel) rfl rfl (Nat.le_of_ble_eq_true rfl) ?_
  intro pp ee ss mm below meth cc B hini hC ls hl
  have hl : lv_has ls 5 [(0, .ref (ad (1)))] := hl
  refine lv_aload_n B.1 B.2.1 dX7_firstFault_0 rfl (lv_at hl 0 rfl) ?_
  refine r_calli B hC hl.1 (1) 7 rfl rfl (by decide) h0 (As := []) (ctX7_faultInHead l g lo ad hT ok) gX7_firstFault_X7_faultInHead rfl (n := 0) rfl (by decide +kernel) ⟨Nat.le_of_ble_eq_true rfl, Nat.le_of_ble_eq_true rfl⟩ ⟨Nat.zero_le _, Nat.zero_le _⟩ rfl (Nat.le_of_ble_eq_true rfl) dX7_firstFault_1 (fun r1 F1 H locs hp1 hC => ?_)
  obtain ⟨er, eF⟩ := hp1
  subst er
  rw [eF] at hC
  refine lv_istore_n (lv' := [(1, .int (oI (fHead v))), (0, .ref (ad (1)))]) B.1 B.2.1 dX7_firstFault_4 rfl hl (by decide) rfl (fun ls hl => ?_)
  refine lv_iload_n B.1 B.2.1 dX7_firstFault_5 rfl (lv_at hl 0 rfl) ?_
  refine lv_bipush (v := (-9)) B.1 B.2.1 dX7_firstFault_6 (by decide) ?_
  refine lv_icmp_eq (tgt := 13) B.1 B.2.1 dX7_firstFault_8 (by decide) (fun c_8 => ?_) (fun c_8 => ?_)
  · have q_8 := (oI_9 (fun k hk => Nat.lt_of_le_of_lt (fHead_le hk) (by decide))).mp c_8
    refine lv_iconst (v := nI 4) B.1 B.2.1 dX7_firstFault_13 (by decide) ?_
    refine lv_istore_n (lv' := [(2, .int (nI 4)), (1, .int (oI (fHead v))), (0, .ref (ad (1)))]) B.1 B.2.1 dX7_firstFault_14 rfl hl (by decide) rfl (fun ls hl => ?_)
    refine lv_iconst (v := nI 0) B.1 B.2.1 dX7_firstFault_15 (by decide) ?_
    refine lv_istore_n (lv' := [(3, .int (nI 0)), (2, .int (nI 4)), (1, .int (oI (fHead v))), (0, .ref (ad (1)))]) B.1 B.2.1 dX7_firstFault_16 rfl hl (by decide) rfl (fun ls hl => ?_)
    have loop17 : ∀ (k : Nat) (p i : Nat), (p + k = 10) → (i ≤ 4 + 6 * p) → (fAll v = fRest v k p i) → ∀ (H : Heap) (locs : List Loc) (ls : Array Slot), Cu g lo 196 ad F ss ss.heap H locs → lv_has ls 5 [(3, .int (nI p)), (2, .int (nI i)), (0, .ref (ad (1)))] → W pp l ee { frames := 5, cells := 0, slots := 0, locals := 108 } ss mm ([.ref (ad (1))] : List Value).toArray below meth cc H locs 0 0 (MQ below (va_Qi (fun r F' => r = oI (fAll v) ∧ F' = F) (fun F' t => Wd g lo 196 ad F' t) (fun q => lo ≤ q)) ([.ref (ad (1))] : List Value).toArray ss 0 0 (fun q => lo ≤ q)) (F0 mm 17 ls []) := by
      intro k
      induction k with
      | zero =>
        intro p i hpk hi hf H locs ls hC hl
        have hbo := bop_le v i
        refine lv_iload_n B.1 B.2.1 dX7_firstFault_17 rfl (lv_at hl 0 rfl) ?_
        refine lv_bipush (v := nI 10) B.1 B.2.1 dX7_firstFault_18 (by decide) ?_
        refine lv_icmp_ge (tgt := 63) B.1 B.2.1 dX7_firstFault_20 (by decide) (fun _ => ?_) (fun z => absurd (nI_le (by omega) (by omega)) z)
        refine lv_iload_n B.1 B.2.1 dX7_firstFault_63 rfl (lv_at hl 1 rfl) ?_
        refine lv_aload_n B.1 B.2.1 dX7_firstFault_64 rfl (lv_at hl 2 rfl) ?_
        refine r_cg B hC (i := 1) (by decide) h0 (C := RX7) (T := TX7) (n := 2) rfl iwX7_firstFault_X7 1 (by decide) (index := 15) flX7_firstFault_15 rfl (v := .int (nI (tn v))) rfl dX7_firstFault_65 ?_
        refine lv_icmp_ge (tgt := 75) B.1 B.2.1 dX7_firstFault_68 (by decide) (fun c_68 => ?_) (fun c_68 => ?_)
        · have q_68 : (tn v) ≤ i := (nI_leI (by omega) (by omega)).mp c_68
          refine lv_bipush (v := (-9)) B.1 B.2.1 dX7_firstFault_75 (by decide) ?_
          exact r_eI B hC (v := (-9)) (⟨by rw [hf, fRest, if_neg (by omega)]; rfl, rfl⟩) dX7_firstFault_77
        · have q_68 : ¬ (tn v) ≤ i := fun z => c_68 ((nI_leI (by omega) (by omega)).mpr z)
          refine lv_iload_n B.1 B.2.1 dX7_firstFault_71 rfl (lv_at hl 1 rfl) ?_
          refine lv_goto (tgt := 77) B.1 B.2.1 dX7_firstFault_72 (by decide) ?_
          exact r_eI B hC (v := nI i) (⟨by rw [hf, fRest, if_pos (by omega)]; rfl, rfl⟩) dX7_firstFault_77
      | succ k ih17 =>
        intro p i hpk hi hf H locs ls hC hl
        have hbo := bop_le v i
        refine lv_iload_n B.1 B.2.1 dX7_firstFault_17 rfl (lv_at hl 0 rfl) ?_
        refine lv_bipush (v := nI 10) B.1 B.2.1 dX7_firstFault_18 (by decide) ?_
        refine lv_icmp_ge (tgt := 63) B.1 B.2.1 dX7_firstFault_20 (by decide) (fun z => absurd z (nI_ge (by omega) (by omega))) (fun _ => ?_)
        refine lv_iload_n B.1 B.2.1 dX7_firstFault_23 rfl (lv_at hl 1 rfl) ?_
        refine lv_aload_n B.1 B.2.1 dX7_firstFault_24 rfl (lv_at hl 2 rfl) ?_
        refine r_cg B hC (i := 1) (by decide) h0 (C := RX7) (T := TX7) (n := 2) rfl iwX7_firstFault_X7 1 (by decide) (index := 15) flX7_firstFault_15 rfl (v := .int (nI (tn v))) rfl dX7_firstFault_25 ?_
        refine lv_icmp_ge (tgt := 63) B.1 B.2.1 dX7_firstFault_28 (by decide) (fun c_28 => ?_) (fun c_28 => ?_)
        · have q_28 : (tn v) ≤ i := (nI_leI (by omega) (by omega)).mp c_28
          refine lv_iload_n B.1 B.2.1 dX7_firstFault_63 rfl (lv_at hl 1 rfl) ?_
          refine lv_aload_n B.1 B.2.1 dX7_firstFault_64 rfl (lv_at hl 2 rfl) ?_
          refine r_cg B hC (i := 1) (by decide) h0 (C := RX7) (T := TX7) (n := 2) rfl iwX7_firstFault_X7 1 (by decide) (index := 15) flX7_firstFault_15 rfl (v := .int (nI (tn v))) rfl dX7_firstFault_65 ?_
          refine lv_icmp_ge (tgt := 75) B.1 B.2.1 dX7_firstFault_68 (by decide) (fun _ => ?_) (fun z => absurd (nI_le (by omega) (by omega)) z)
          refine lv_bipush (v := (-9)) B.1 B.2.1 dX7_firstFault_75 (by decide) ?_
          exact r_eI B hC (v := (-9)) (⟨by rw [hf, fRest, if_neg (by omega)]; rfl, rfl⟩) dX7_firstFault_77
        · have q_28 : ¬ (tn v) ≤ i := fun z => c_28 ((nI_leI (by omega) (by omega)).mpr z)
          refine lv_aload_n B.1 B.2.1 dX7_firstFault_31 rfl (lv_at hl 2 rfl) ?_
          refine lv_iload_n B.1 B.2.1 dX7_firstFault_32 rfl (lv_at hl 1 rfl) ?_
          refine lv_iload_n B.1 B.2.1 dX7_firstFault_33 rfl (lv_at hl 0 rfl) ?_
          refine r_calli B hC hl.1 (1) 7 rfl rfl (by decide) h0 (As := [.int (nI i), .int (nI p)]) (ctX7_faultInPlace l g lo ad hT ok (i := i) (p := p) (by omega) (by omega)) gX7_firstFault_X7_faultInPlace rfl (n := 2) rfl (by decide +kernel) ⟨Nat.le_of_ble_eq_true rfl, Nat.le_of_ble_eq_true rfl⟩ ⟨Nat.zero_le _, Nat.zero_le _⟩ rfl (Nat.le_of_ble_eq_true rfl) dX7_firstFault_34 (fun r34 F1 H locs hp34 hC => ?_)
          obtain ⟨er, eF⟩ := hp34
          subst er
          rw [eF] at hC
          refine lv_istore (lv' := [(4, .int (oI (fPlace v i p))), (3, .int (nI p)), (2, .int (nI i)), (0, .ref (ad (1)))]) B.1 B.2.1 dX7_firstFault_37 hl (by decide) rfl (fun ls hl => ?_)
          refine lv_iload B.1 B.2.1 dX7_firstFault_39 (lv_at hl 0 rfl) ?_
          refine lv_bipush (v := (-9)) B.1 B.2.1 dX7_firstFault_41 (by decide) ?_
          refine lv_icmp_eq (tgt := 49) B.1 B.2.1 dX7_firstFault_43 (by decide) (fun c_43 => ?_) (fun c_43 => ?_)
          · have q_43 := (oI_9 (fun k hk => Nat.lt_of_le_of_lt (fPlace_le hk) (by omega))).mp c_43
            refine lv_iload_n B.1 B.2.1 dX7_firstFault_49 rfl (lv_at hl 2 rfl) ?_
            refine lv_aload_n B.1 B.2.1 dX7_firstFault_50 rfl (lv_at hl 3 rfl) ?_
            refine lv_iload_n B.1 B.2.1 dX7_firstFault_51 rfl (lv_at hl 2 rfl) ?_
            refine r_calli B hC hl.1 (1) 7 rfl rfl (by decide) h0 (As := [.int (nI i)]) (ctX7_bytesOfPlace l g lo ad hT ok (i := i) (by omega)) gX7_firstFault_X7_bytesOfPlace rfl (n := 1) rfl (by decide +kernel) ⟨Nat.le_of_ble_eq_true rfl, Nat.le_of_ble_eq_true rfl⟩ ⟨Nat.zero_le _, Nat.zero_le _⟩ rfl (Nat.le_of_ble_eq_true rfl) dX7_firstFault_52 (fun r52 F1 H locs hp52 hC => ?_)
            obtain ⟨er, eF⟩ := hp52
            subst er
            rw [eF] at hC
            refine lv_iadd B.1 B.2.1 dX7_firstFault_55 ?_
            refine r_tI (y := nI (i + (bop v i))) (nI_add _ _) ?_
            refine lv_istore_n (lv' := [(2, .int (nI (i + (bop v i)))), (4, .int (oI (fPlace v i p))), (3, .int (nI p)), (0, .ref (ad (1)))]) B.1 B.2.1 dX7_firstFault_56 rfl hl (by decide) rfl (fun ls hl => ?_)
            refine lv_iinc (v := nI (p + 1)) (lv' := [(3, .int (nI (p + 1))), (2, .int (nI (i + (bop v i)))), (4, .int (oI (fPlace v i p))), (0, .ref (ad (1)))]) B.1 B.2.1 dX7_firstFault_57 hl (k := 2) rfl (nI_1 _) (by decide) rfl (fun ls hl => ?_)
            refine lv_goto (tgt := 17) B.1 B.2.1 dX7_firstFault_60 (by decide) ?_
            exact ih17 (p + 1) (i + bop v i) (by omega) (by have := bop_le v i; omega) (by rw [hf, fRest, if_pos (by omega), if_pos q_43]) _ _ ls hC (lv_sub hl [0, 1, 3] rfl)
          · have q_43 : ¬ fPlace v i p = none := fun z => c_43 ((oI_9 (fun k hk => Nat.lt_of_le_of_lt (fPlace_le hk) (by omega))).mpr z)
            refine lv_iload B.1 B.2.1 dX7_firstFault_46 (lv_at hl 0 rfl) ?_
            exact r_eI B hC (v := oI (fPlace v i p)) (⟨by rw [hf, fRest, if_pos (by omega), if_neg q_43], rfl⟩) dX7_firstFault_48
    exact loop17 10 0 4 rfl (by decide) (by rw [fAll, if_pos q_8]) _ _ ls hC (lv_sub hl [0, 1, 3] rfl)
  · have q_8 : ¬ fHead v = none := fun z => c_8 ((oI_9 (fun k hk => Nat.lt_of_le_of_lt (fHead_le hk) (by decide))).mpr z)
    refine lv_iload_n B.1 B.2.1 dX7_firstFault_11 rfl (lv_at hl 0 rfl) ?_
    exact r_eI B hC (v := oI (fHead v)) (⟨by rw [fAll, if_neg q_8], rfl⟩) dX7_firstFault_12
end
section
/-! THE BYTES of a long: the i-th of eight, the lowest is the 0th -/
def byteOf (x : Int64) (i : Nat) : Nat := x.toBitVec.toNat / 2 ^ (8 * i) % 256
theorem byteOf_lt (x : Int64) (i : Nat) : byteOf x i < 256 := Nat.mod_lt _ (by decide)
theorem sh_amt : ∀ i, i < 8 → ((Int32.toInt64 (nI (8 * i)) &&& 63).toBitVec.smod 64).toNat = 8 * i := by decide
theorem sh_bits (x : Int64) {i : Nat} (hi : i < 8) : (x >>> (Int32.toInt64 (nI (8 * i)) &&& 63)).toBitVec = x.toBitVec.sshiftRight (8 * i) := by
  rw [Int64.toBitVec_shiftRight, BitVec.sshiftRight_eq', sh_amt i hi]
theorem by_bits (x : Int64) {i j : Nat} (hi : i < 8) (hj : j < 8) : (x.toBitVec.sshiftRight (8 * i)).getLsbD j = (byteOf x i).testBit j := by
  rw [BitVec.getLsbD_sshiftRight]
  have h1 : ¬ 64 ≤ j := by omega
  have h2 : 8 * i + j < 64 := by omega
  simp only [h1, h2, decide_false, Bool.not_false, Bool.true_and, if_true]
  rw [byteOf, show (256 : Nat) = 2 ^ 8 from rfl, Nat.testBit_mod_two_pow, Nat.testBit_div_two_pow]
  simp only [hj, decide_true, Bool.true_and]
  rw [BitVec.getLsbD, Nat.add_comm]
theorem by_8 (x : Int64) {i : Nat} (hi : i < 8) : Int32.toInt8 (Int64.toInt32 (x >>> (Int32.toInt64 (nI (8 * i)) &&& 63))) = (nI (byteOf x i)).toInt8 := by
  apply Int8.toBitVec_inj.mp
  apply BitVec.eq_of_getLsbD_eq
  intro j hj
  have hj8 : j < 8 := hj
  have h32 : j < 32 := by omega
  rw [Int32.toBitVec_toInt8, Int64.toBitVec_toInt32, sh_bits x hi, Int32.toBitVec_toInt8]
  rw [show (nI (byteOf x i)).toBitVec = BitVec.ofNat 32 (byteOf x i) from rfl]
  simp only [BitVec.getLsbD_setWidth, BitVec.getLsbD_signExtend, BitVec.getLsbD_ofNat, by_bits x hi hj8, hj8, h32, decide_true, Bool.true_and, if_true, show j < 64 by omega]
theorem bo_nar (x : Int64) {i : Nat} (hi : i < 8) : vp_nar .byte (Int8.toInt32 (Int32.toInt8 (Int64.toInt32 (x >>> (Int32.toInt64 (nI (8 * i)) &&& 63))))) = sB (byteOf x i) := by
  rw [pk_vb, by_8 x hi]; rfl
theorem bo_int (x : Int64) {i : Nat} (hi : i < 8) : Int64.toInt32 ((x >>> (Int32.toInt64 (nI (8 * i)) &&& 63)) &&& 255) = nI (byteOf x i) := by
  apply Int32.toBitVec_inj.mp
  apply BitVec.eq_of_getLsbD_eq
  intro j hj
  have h64 : j < 64 := by omega
  rw [Int64.toBitVec_toInt32, Int64.toBitVec_and, sh_bits x hi]
  rw [show (nI (byteOf x i)).toBitVec = BitVec.ofNat 32 (byteOf x i) from rfl]
  have h255 : (255 : Int64).toBitVec.getLsbD j = decide (j < 8) := by
    rw [show (255 : Int64).toBitVec = BitVec.ofNat 64 (2 ^ 8 - 1) from rfl, BitVec.getLsbD_ofNat, Nat.testBit_two_pow_sub_one]
    simp [h64]
  simp only [BitVec.getLsbD_setWidth, BitVec.getLsbD_signExtend, BitVec.getLsbD_and, BitVec.getLsbD_ofNat, hj, decide_true, Bool.true_and, h255]
  by_cases h8 : j < 8
  · simp [by_bits x hi h8, h8]; omega
  · have : (byteOf x i).testBit j = false := Nat.testBit_lt_two_pow (Nat.lt_of_lt_of_le (byteOf_lt x i) (by rw [show (256 : Nat) = 2 ^ 8 from rfl]; exact Nat.pow_le_pow_right (by decide) (by omega)))
    simp [h8, this]; omega
end
section
/-! TEXT.append: the bytes come one by one -/
def addB (v : TV) (c : Nat) : TV := (va_up (tb v) (tn v) c, tn v + 1)
def appTo (x : Int64) : Nat → TV → TV
  | 0, v => v
  | k + 1, v => appTo x k (addB v (byteOf x k))
theorem addB_ok {v : TV} (ok : TOK v) (h : tn v < 72) {c : Nat} (hc : c < 256) : TOK (addB v c) := by
  refine ⟨show tn v + 1 ≤ 72 by omega, fun j => ?_⟩
  show va_up (tb v) (tn v) c j < 256
  by_cases hj : j = tn v
  · rw [hj, va_up_self]; exact hc
  · rw [va_up_ne _ _ hj]; exact ok.2 j
theorem appTo_ok {x : Int64} : ∀ {k : Nat} {v : TV}, TOK v → tn v + k ≤ 72 → TOK (appTo x k v) ∧ tn (appTo x k v) = tn v + k
  | 0, v, ok, _ => ⟨ok, rfl⟩
  | k + 1, v, ok, h => by
    have q := appTo_ok (x := x) (k := k) (addB_ok ok (by omega) (byteOf_lt x k)) (show tn v + 1 + k ≤ 72 by omega)
    refine ⟨q.1, q.2.trans ?_⟩
    show tn v + 1 + k = tn v + (k + 1)
    omega
theorem upd_sB (f : Nat → Nat) (k x : Nat) {z : Int32} (h : z = sB x) : upd (fun j => sB (f j)) k z = fun j => sB (va_up f k x j) := by
  subst h
  funext j
  by_cases h : j = k
  · subst h; simp [upd, va_up]
  · simp [upd, va_up, h]
theorem nI_dec (k : Nat) : nI k + Int32.ofInt (-1) = nI k - nI 1 := by
  rw [Int32.sub_eq_add_neg]; rfl
theorem nI_p1 (k : Nat) : nI (k + 1) - nI 1 = nI k := pk_sub (by omega)
theorem iwX7_append_X7 : ∀ w ∈ u_ws RX7 TX7 2, w ∈ wsX7_append := by decide +kernel
theorem flX7_append_9 : Cond.fieldLink RX7 9 RX7 (TX7 0).2.1 (TX7 0).2.2.1 ∈ wsX7_append := by decide +kernel
theorem flX7_append_15 : Cond.fieldLink RX7 15 RX7 (TX7 1).2.1 (TX7 1).2.2.1 ∈ wsX7_append := by decide +kernel
set_option maxHeartbeats 4000000 in
set_option maxRecDepth 100000 in
theorem ctX7_append (l : Launch) (g : Gx) (lo : Nat) (ad : Nat → Nat) {F : Nat → va_E} {v : TV} (hT : TextC g ad F v) (ok : TOK v) {n : Nat} {x : Int64} (hn : n ≤ 8) (hr : tn v + n ≤ 72) : MV l g lo 196 ad yX7_append wsX7_append 0 0 [.ref (ad (1)), .int (nI n), .long (x)] F (fun F' => TextC g ad F' (appTo x n v) ∧ Same 1 3 F F') := by
  obtain ⟨h0, h1⟩ := id hT
  have okn := ok.1
  refine enter (cc := cX7_append) (maxL := 5) (ret := none) (own := RX7) (by decide +kernel) rfl rfl (Nat.le_of_ble_eq_true rfl) ?_
  intro pp ee ss mm below meth cc B hini hC ls hl
  have hl : lv_has ls 5 [(0, .ref (ad (1))), (1, .int (nI n)), (2, .long (x))] := hl
  refine lv_iload_n B.1 B.2.1 dX7_append_0 rfl (lv_at hl 1 rfl) ?_
  refine lv_iconst (v := nI 1) B.1 B.2.1 dX7_append_1 (by decide) ?_
  refine lv_isub B.1 B.2.1 dX7_append_2 ?_
  refine r_tI (y := nI n - nI 1) (rfl) ?_
  refine lv_istore (lv' := [(4, .int (nI n - nI 1)), (0, .ref (ad (1))), (1, .int (nI n)), (2, .long (x))]) B.1 B.2.1 dX7_append_3 hl (by decide) rfl (fun ls hl => ?_)
  have loop5 : ∀ (k : Nat) (u : TV) (G : Nat → va_E), (TextC g ad G u) → (TOK u) → (tn u + k ≤ 72) → (k ≤ 8) → (appTo x n v = appTo x k u) → (Same 1 3 F G) → ∀ (H : Heap) (locs : List Loc) (ls : Array Slot), Cu g lo 196 ad G ss ss.heap H locs → lv_has ls 5 [(4, .int (nI k - nI 1)), (0, .ref (ad (1))), (2, .long (x))] → W pp l ee { frames := 0, cells := 0, slots := 0, locals := 0 } ss mm ([.ref (ad (1)), .int (nI n), .long (x)] : List Value).toArray below meth cc H locs 0 0 (MQ below (va_Qv (fun F' => TextC g ad F' (appTo x n v) ∧ Same 1 3 F F') (fun F' t => Wd g lo 196 ad F' t) (fun q => lo ≤ q)) ([.ref (ad (1)), .int (nI n), .long (x)] : List Value).toArray ss 0 0 (fun q => lo ≤ q)) (F0 mm 5 ls []) := by
    intro k
    induction k with
    | zero =>
      intro u G hG hu hr hk8 he hs H locs ls hC hl
      obtain ⟨h0, h1⟩ := hG
      have hl : lv_has ls 5 [(4, .int (-1)), (0, .ref (ad (1))), (2, .long (x))] := by rw [show nI 0 - nI 1 = -1 from by decide] at hl; exact hl
      refine lv_iload B.1 B.2.1 dX7_append_5 (lv_at hl 0 rfl) ?_
      refine lv_if_lt (tgt := 56) B.1 B.2.1 dX7_append_7 (by decide) (fun _ => ?_) (fun z => absurd (by decide) z)
      exact r_eV B hC (⟨by rw [he]; exact ⟨h0, h1⟩, hs⟩) dX7_append_56
    | succ k ih5 =>
      intro u G hG hu hr hk8 he hs H locs ls hC hl
      obtain ⟨h0, h1⟩ := hG
      have hl : lv_has ls 5 [(4, .int (nI k)), (0, .ref (ad (1))), (2, .long (x))] := by rw [nI_p1 k] at hl; exact hl
      refine lv_iload B.1 B.2.1 dX7_append_5 (lv_at hl 0 rfl) ?_
      refine lv_if_lt (tgt := 56) B.1 B.2.1 dX7_append_7 (by decide) (fun z => absurd z (nI_pos (by omega))) (fun _ => ?_)
      refine lv_aload_n B.1 B.2.1 dX7_append_10 rfl (lv_at hl 1 rfl) ?_
      refine r_cg B hC (i := 1) (by decide) h0 (C := RX7) (T := TX7) (n := 2) rfl iwX7_append_X7 1 (by decide) (index := 15) flX7_append_15 rfl (v := .int (nI (tn u))) rfl dX7_append_11 ?_
      refine lv_aload_n B.1 B.2.1 dX7_append_14 rfl (lv_at hl 1 rfl) ?_
      refine r_cg B hC (i := 1) (by decide) h0 (C := RX7) (T := TX7) (n := 2) rfl iwX7_append_X7 0 (by decide) (index := 9) flX7_append_9 rfl (v := .ref (ad (2))) rfl dX7_append_15 ?_
      refine r_calen B hC (i := 2) (by decide) h1 1 rfl (n := 72) rfl dX7_append_18 ?_
      refine lv_icmp_ge (tgt := 56) B.1 B.2.1 dX7_append_19 (by decide) (fun z => absurd z (nI_ge (by omega) (by omega))) (fun _ => ?_)
      refine lv_aload_n B.1 B.2.1 dX7_append_22 rfl (lv_at hl 1 rfl) ?_
      refine r_cg B hC (i := 1) (by decide) h0 (C := RX7) (T := TX7) (n := 2) rfl iwX7_append_X7 0 (by decide) (index := 9) flX7_append_9 rfl (v := .ref (ad (2))) rfl dX7_append_23 ?_
      refine lv_aload_n B.1 B.2.1 dX7_append_26 rfl (lv_at hl 1 rfl) ?_
      refine r_cg B hC (i := 1) (by decide) h0 (C := RX7) (T := TX7) (n := 2) rfl iwX7_append_X7 1 (by decide) (index := 15) flX7_append_15 rfl (v := .int (nI (tn u))) rfl dX7_append_27 ?_
      refine lv_lload_n B.1 B.2.1 dX7_append_30 rfl (lv_at hl 2 rfl) ?_
      refine lv_bipush (v := nI 8) B.1 B.2.1 dX7_append_31 (by decide) ?_
      refine lv_iload B.1 B.2.1 dX7_append_33 (lv_at hl 0 rfl) ?_
      refine lv_imul B.1 B.2.1 dX7_append_35 ?_
      refine r_tI (y := nI (8 * k)) (pk_mul _ _) ?_
      refine lv_lshr (v := x >>> (Int32.toInt64 (nI (8 * k)) &&& 63)) B.1 B.2.1 dX7_append_36 (rfl) ?_
      refine lv_l2i (v := Int64.toInt32 (x >>> (Int32.toInt64 (nI (8 * k)) &&& 63))) B.1 B.2.1 dX7_append_37 (rfl) ?_
      refine lv_i2b (v := Int8.toInt32 (Int32.toInt8 (Int64.toInt32 (x >>> (Int32.toInt64 (nI (8 * k)) &&& 63))))) B.1 B.2.1 dX7_append_38 (rfl) ?_
      refine r_cbast B hC (i := 2) (by decide) h1 (j := (tn u)) (by omega) (by decide) dX7_append_39 ?_
      intro H locs hC
      obtain ⟨F21, eF21⟩ : ∃ f : Nat → va_E, f = va_up G (2) (.inl (g.2.2 1, 72, .inl (fun j => sB (va_up (tb u) (tn u) (byteOf x k) j)))) := ⟨_, rfl⟩
      have hC : Cu g lo 196 ad F21 ss ss.heap H locs := by rw [eF21]; exact (by rw [← upd_sB (tb u) (tn u) (byteOf x k) (bo_nar x (by omega))]; exact hC)
      have k2_F21 : F21 2 = .inl (g.2.2 1, 72, .inl (fun j => sB (va_up (tb u) (tn u) (byteOf x k) j))) := by rw [eF21]; exact va_up_self _ _ _
      have h0_F21 : F21 1 = .inr (7, [.ref (ad (2)), .int (nI (tn u))]) := by rw [eF21, va_up_ne _ _ (by decide)]; exact h0
      refine lv_aload_n B.1 B.2.1 dX7_append_40 rfl (lv_at hl 1 rfl) ?_
      refine lv_dup B.1 B.2.1 dX7_append_41 rfl ?_
      refine r_cg B hC (i := 1) (by decide) h0_F21 (C := RX7) (T := TX7) (n := 2) rfl iwX7_append_X7 1 (by decide) (index := 15) flX7_append_15 rfl (v := .int (nI (tn u))) rfl dX7_append_42 ?_
      refine lv_iconst (v := nI 1) B.1 B.2.1 dX7_append_45 (by decide) ?_
      refine lv_iadd B.1 B.2.1 dX7_append_46 ?_
      refine r_tI (y := nI ((tn u) + 1)) (nI_add _ _) ?_
      refine r_cp B hC (i := 1) (by decide) h0_F21 tyX7 tyX7_ok nmX7 (C := RX7) (T := TX7) rfl iwX7_append_X7 1 (by decide) (index := 15) flX7_append_15 rfl rfl (v := .int (nI ((tn u) + 1))) (rfl) (rfl) (Nat.le_of_ble_eq_true rfl) dX7_append_47 ?_
      intro H locs hC
      obtain ⟨F22, eF22⟩ : ∃ f : Nat → va_E, f = va_up F21 (1) (.inr (7, [.ref (ad (2)), .int (nI ((tn u) + 1))])) := ⟨_, rfl⟩
      have hC : Cu g lo 196 ad F22 ss ss.heap H locs := by rw [eF22]; exact hC
      have k1_F22 : F22 1 = .inr (7, [.ref (ad (2)), .int (nI ((tn u) + 1))]) := by rw [eF22]; exact va_up_self _ _ _
      have k2_F22 : F22 2 = .inl (g.2.2 1, 72, .inl (fun j => sB (va_up (tb u) (tn u) (byteOf x k) j))) := by rw [eF22, va_up_ne _ _ (by decide)]; exact k2_F21
      refine lv_iinc (v := nI k - nI 1) (lv' := [(4, .int (nI k - nI 1)), (0, .ref (ad (1))), (2, .long (x))]) B.1 B.2.1 dX7_append_50 hl (k := 0) rfl (nI_dec k) (by decide) rfl (fun ls hl => ?_)
      refine lv_goto (tgt := 5) B.1 B.2.1 dX7_append_53 (by decide) ?_
      exact ih5 (addB u (byteOf x k)) F22 ⟨k1_F22, k2_F22⟩ (addB_ok hu (by omega) (byteOf_lt x k)) (show tn u + 1 + k ≤ 72 by omega) (by omega) he (by rw [eF22]; exact Same.up (by rw [eF21]; exact Same.up (Same.wide hs (by omega) (by omega)) (by omega) (by omega)) (by omega) (by omega)) _ _ ls hC (lv_sub hl [0, 1, 2] rfl)
  exact loop5 n v F hT ok hr hn rfl Same.rf _ _ ls hC (lv_sub hl [0, 1, 3] rfl)
end
section
/-! THE SHIP'S RULES over the values of a Hull and a Load, as the class goes through them -/
def LOK (h : HV) (w : LV) : Prop := (∀ t, wh w t ≤ 200 ∧ ln w t ≤ 9 ∧ wo w t ≤ 10) ∧ wa w ≤ 300 ∧ (su w = false → wa w ≤ hho h) ∧ (∀ p t, p < 10 → (ti w p = some t ↔ t < 10 ∧ wh w t = p)) ∧ (∀ t, t < 10 → wh w t < hn h ∨ wh w t = 100 ∨ wh w t = 200) ∧ (∀ t, hn h ≤ t → t < 10 → wh w t = 200) ∧ (∀ t, t < 10 → wh w t ≠ 200 → wo w t ≤ 9) ∧ CAN w
theorem LOK.t10 {h : HV} {w : LV} (k : LOK h w) {p : Nat} (hp : p < 10) : ∀ t, ti w p = some t → t < 10 := fun t q => ((k.2.2.2.1 p t hp).mp q).1
theorem LOK.can {h : HV} {w : LV} (k : LOK h w) : CAN w := k.2.2.2.2.2.2.2
theorem LOK.tn {h : HV} {w : LV} (ok : HOK h) (k : LOK h w) {p t : Nat} (hp : p < 10) (q : ti w p = some t) : t < 10 ∧ wh w t = p ∧ p < hn h := by
  obtain ⟨h1, h2⟩ := (k.2.2.2.1 p t hp).mp q
  have := k.2.2.2.2.1 t h1
  exact ⟨h1, h2, by omega⟩
theorem oI_eq {o : Option Nat} {k : Nat} (h : ∀ j, o = some j → j < 2 ^ 31) (hk : k < 2 ^ 31) : oI o = nI k ↔ o = some k := by
  cases o with
  | none =>
    simp only [oI, reduceCtorEq, iff_false]
    exact fun q => nI_ne9 hk q.symm
  | some j =>
    simp only [oI, Option.some.injEq]
    exact nI_eq (h j rfl) hk
theorem nI_or (a b : Nat) : nI a ||| nI b = nI (a ||| b) := by
  apply Int32.toBitVec_inj.mp
  rw [Int32.toBitVec_or]
  show BitVec.ofNat 32 a ||| BitVec.ofNat 32 b = BitVec.ofNat 32 (a ||| b)
  exact (BitVec.ofNat_or ..).symm
theorem or_bit {a p : Nat} (h : a < 2 ^ p) : nI a ||| nI (2 ^ p) = nI (a + 2 ^ p) := by
  rw [nI_or]
  have e := Nat.two_pow_add_eq_or_of_lt h 1
  rw [Nat.mul_one] at e
  rw [Nat.or_comm, ← e, Nat.add_comm]
theorem shl_1 : ∀ p, p < 10 → nI 1 <<< (nI p &&& 31) = nI (2 ^ p) := by decide
/-- LEAK over the first k places; the OPEN ones as bits -/
def leakTo (h : HV) (w : LV) : Nat → Nat
  | 0 => 0
  | p + 1 => leakTo h w p + (if ti w p = none then hin_ h p else 0)
def leakV (h : HV) (w : LV) : Nat := leakTo h w (hn h)
theorem leakTo_le {h : HV} {w : LV} (ok : HOK h) : ∀ k, leakTo h w k ≤ 9 * k
  | 0 => Nat.le_refl _
  | k + 1 => by
    have q := leakTo_le (w := w) ok k
    have r := (ok.2.2.2.1 k).2
    show leakTo h w k + (if ti w k = none then hin_ h k else 0) ≤ 9 * (k + 1)
    split <;> omega
theorem leakV_le {h : HV} {w : LV} (ok : HOK h) : leakV h w ≤ 90 := by
  have q := leakTo_le (w := w) ok (hn h)
  have := ok.1
  unfold leakV
  omega
def openTo (w : LV) : Nat → Nat
  | 0 => 0
  | p + 1 => openTo w p + (if ti w p = none then 2 ^ p else 0)
theorem openTo_lt (w : LV) : ∀ k, openTo w k < 2 ^ k
  | 0 => Nat.zero_lt_one
  | k + 1 => by
    have q := openTo_lt w k
    have e : 2 ^ (k + 1) = 2 ^ k + 2 ^ k := by rw [Nat.pow_succ]; omega
    show openTo w k + (if ti w k = none then 2 ^ k else 0) < 2 ^ (k + 1)
    split <;> omega
/-- something in a place that rests on p; TAKEN; PUT; MOVES -/
def borneTo (h : HV) (w : LV) (p : Nat) : Nat → Bool
  | 0 => false
  | o + 1 => borneTo h w p o || (decide (hre h o = some p) && (ti w o).isSome)
theorem borneTo_up {h : HV} {w : LV} {p k : Nat} (q : borneTo h w p k = true) : ∀ d, borneTo h w p (k + d) = true
  | 0 => q
  | d + 1 => by
    show (borneTo h w p (k + d) || _) = true
    rw [borneTo_up q d]; rfl
def takeV (h : HV) (w : LV) (p : Nat) : Bool := (ti w p).isSome && !borneTo h w p (hn h)
def hreN (h : HV) (p : Nat) : Option Nat := if p < hn h then hre h p else none
theorem hreN_lt {h : HV} (ok : HOK h) {p u : Nat} (q : hreN h p = some u) : u < 10 ∧ u < p ∧ p < hn h ∧ hre h p = some u := by
  unfold hreN at q
  split at q
  · next hp => have := ok.2.2.2.2.1 p u q; exact ⟨this.1, this.2 hp, hp, q⟩
  · cases q
def bornV (w : LV) (o : Option Nat) : Bool := match o with
  | none => true
  | some u => (ti w u).isSome
def fitsV (h : HV) (w : LV) (t p : Nat) : Bool := decide (p < hn h) && ((ti w p).isNone && (decide (hle h p ≤ ln w t) && bornV w (hreN h p)))
def mayV (h : HV) (w : LV) (t p : Nat) : Bool := if wh w t = 100 then fitsV h w t p else decide (wh w t < hn h) && (takeV h w (wh w t) && (!decide (hreN h p = some (wh w t)) && fitsV h w t p))
def cutV' (h : HV) (w : LV) (t p : Nat) : LV := cutV (bringV w t p) t (hle h p)
/-- a WATCH: what hangs in the air, what comes down, what worms eat -/
def hangV (h : HV) (w : LV) (p : Nat) : Bool := match hre h p with
  | none => false
  | some u => (ti w u).isNone
def down1 (h : HV) (w : LV) (p : Nat) : LV := match ti w p with
  | none => w
  | some t => if hangV h w p = true then bringV w t 100 else w
def downTo (h : HV) (w : LV) : Nat → LV
  | 0 => w
  | p + 1 => down1 h (downTo h w p) p
def worm1 (w : LV) (p : Nat) : LV := match ti w p with
  | none => w
  | some t => if 0 < wo w t then (if 10 ≤ wo (wormV w t) t then bringV (wormV w t) t 200 else wormV w t) else w
def wormTo (w : LV) : Nat → LV
  | 0 => w
  | p + 1 => worm1 (wormTo w p) p
def waterN (h : HV) (w : LV) : Nat := wa w + leakV h w - hpu h
def watchV (h : HV) (w : LV) : LV := if hho h < waterN h w then sinkV (waterV w (waterN h w)) else downTo h (wormTo (waterV w (waterN h w)) (hn h)) (hn h)
end
section
/-! HULL: what its methods answer and change -/
theorem iwX2_places_X2 : ∀ w ∈ u_ws RX2 TX2 7, w ∈ wsX2_places := by decide +kernel
theorem flX2_places_24 : Cond.fieldLink RX2 24 RX2 (TX2 4).2.1 (TX2 4).2.2.1 ∈ wsX2_places := by decide +kernel
set_option maxHeartbeats 4000000 in
set_option maxRecDepth 100000 in
theorem ctX2_places (l : Launch) (g : Gx) (lo : Nat) (ad : Nat → Nat) {F : Nat → va_E} {h : HV} (hH : HullC g ad F h) (ok : HOK h) : MI l g lo 196 ad yX2_places wsX2_places 0 0 [.ref (ad (3))] F (fun r F' => r = nI (hn h) ∧ F' = F) := by
  obtain ⟨g0, g1, g2, g3, g4⟩ := id hH
  have okn := ok.1
  have okp := ok.2.1
  have okh := ok.2.2.1
  refine enter (cc := cX2_places) (maxL := 1) (ret := some .int) (own := RX2) (by decide +kernel) rfl rfl (Nat.le_of_ble_eq_true rfl) ?_
  intro pp ee ss mm below meth cc B hini hC ls hl
  have hl : lv_has ls 1 [(0, .ref (ad (3)))] := hl
  refine lv_aload_n B.1 B.2.1 dX2_places_0 rfl (lv_at hl 0 rfl) ?_
  refine r_cg B hC (i := 3) (by decide) g0 (C := RX2) (T := TX2) (n := 7) rfl iwX2_places_X2 4 (by decide) (index := 24) flX2_places_24 rfl (v := .int (nI (hn h))) rfl dX2_places_1 ?_
  exact r_eI B hC (v := nI (hn h)) (⟨rfl, rfl⟩) dX2_places_4
theorem iwX2_pumps_X2 : ∀ w ∈ u_ws RX2 TX2 7, w ∈ wsX2_pumps := by decide +kernel
theorem flX2_pumps_28 : Cond.fieldLink RX2 28 RX2 (TX2 5).2.1 (TX2 5).2.2.1 ∈ wsX2_pumps := by decide +kernel
set_option maxHeartbeats 4000000 in
set_option maxRecDepth 100000 in
theorem ctX2_pumps (l : Launch) (g : Gx) (lo : Nat) (ad : Nat → Nat) {F : Nat → va_E} {h : HV} (hH : HullC g ad F h) (ok : HOK h) : MI l g lo 196 ad yX2_pumps wsX2_pumps 0 0 [.ref (ad (3))] F (fun r F' => r = nI (hpu h) ∧ F' = F) := by
  obtain ⟨g0, g1, g2, g3, g4⟩ := id hH
  have okn := ok.1
  have okp := ok.2.1
  have okh := ok.2.2.1
  refine enter (cc := cX2_pumps) (maxL := 1) (ret := some .int) (own := RX2) (by decide +kernel) rfl rfl (Nat.le_of_ble_eq_true rfl) ?_
  intro pp ee ss mm below meth cc B hini hC ls hl
  have hl : lv_has ls 1 [(0, .ref (ad (3)))] := hl
  refine lv_aload_n B.1 B.2.1 dX2_pumps_0 rfl (lv_at hl 0 rfl) ?_
  refine r_cg B hC (i := 3) (by decide) g0 (C := RX2) (T := TX2) (n := 7) rfl iwX2_pumps_X2 5 (by decide) (index := 28) flX2_pumps_28 rfl (v := .int (nI (hpu h))) rfl dX2_pumps_1 ?_
  exact r_eI B hC (v := nI (hpu h)) (⟨rfl, rfl⟩) dX2_pumps_4
theorem iwX2_hold_X2 : ∀ w ∈ u_ws RX2 TX2 7, w ∈ wsX2_hold := by decide +kernel
theorem flX2_hold_31 : Cond.fieldLink RX2 31 RX2 (TX2 6).2.1 (TX2 6).2.2.1 ∈ wsX2_hold := by decide +kernel
set_option maxHeartbeats 4000000 in
set_option maxRecDepth 100000 in
theorem ctX2_hold (l : Launch) (g : Gx) (lo : Nat) (ad : Nat → Nat) {F : Nat → va_E} {h : HV} (hH : HullC g ad F h) (ok : HOK h) : MI l g lo 196 ad yX2_hold wsX2_hold 0 0 [.ref (ad (3))] F (fun r F' => r = nI (hho h) ∧ F' = F) := by
  obtain ⟨g0, g1, g2, g3, g4⟩ := id hH
  have okn := ok.1
  have okp := ok.2.1
  have okh := ok.2.2.1
  refine enter (cc := cX2_hold) (maxL := 1) (ret := some .int) (own := RX2) (by decide +kernel) rfl rfl (Nat.le_of_ble_eq_true rfl) ?_
  intro pp ee ss mm below meth cc B hini hC ls hl
  have hl : lv_has ls 1 [(0, .ref (ad (3)))] := hl
  refine lv_aload_n B.1 B.2.1 dX2_hold_0 rfl (lv_at hl 0 rfl) ?_
  refine r_cg B hC (i := 3) (by decide) g0 (C := RX2) (T := TX2) (n := 7) rfl iwX2_hold_X2 6 (by decide) (index := 31) flX2_hold_31 rfl (v := .int (nI (hho h))) rfl dX2_hold_1 ?_
  exact r_eI B hC (v := nI (hho h)) (⟨rfl, rfl⟩) dX2_hold_4
theorem iwX2_isPlace_X2 : ∀ w ∈ u_ws RX2 TX2 7, w ∈ wsX2_isPlace := by decide +kernel
theorem flX2_isPlace_24 : Cond.fieldLink RX2 24 RX2 (TX2 4).2.1 (TX2 4).2.2.1 ∈ wsX2_isPlace := by decide +kernel
set_option maxHeartbeats 4000000 in
set_option maxRecDepth 100000 in
theorem ctX2_isPlace (l : Launch) (g : Gx) (lo : Nat) (ad : Nat → Nat) {F : Nat → va_E} {h : HV} (hH : HullC g ad F h) (ok : HOK h) {p : Nat} (hp : p < 2 ^ 30) : MI l g lo 196 ad yX2_isPlace wsX2_isPlace 0 0 [.ref (ad (3)), .int (nI p)] F (fun r F' => r = bI (decide (p < hn h)) ∧ F' = F) := by
  obtain ⟨g0, g1, g2, g3, g4⟩ := id hH
  have okn := ok.1
  have okp := ok.2.1
  have okh := ok.2.2.1
  refine enter (cc := cX2_isPlace) (maxL := 2) (ret := some .boolean) (own := RX2) (by decide +kernel) rfl rfl (Nat.le_of_ble_eq_true rfl) ?_
  intro pp ee ss mm below meth cc B hini hC ls hl
  have hl : lv_has ls 2 [(0, .ref (ad (3))), (1, .int (nI p))] := hl
  refine lv_iload_n B.1 B.2.1 dX2_isPlace_0 rfl (lv_at hl 1 rfl) ?_
  refine lv_if_lt (tgt := 22) B.1 B.2.1 dX2_isPlace_1 (by decide) (fun z => absurd z (nI_pos (by omega))) (fun _ => ?_)
  refine lv_iload_n B.1 B.2.1 dX2_isPlace_4 rfl (lv_at hl 1 rfl) ?_
  refine lv_aload_n B.1 B.2.1 dX2_isPlace_5 rfl (lv_at hl 0 rfl) ?_
  refine r_cg B hC (i := 3) (by decide) g0 (C := RX2) (T := TX2) (n := 7) rfl iwX2_isPlace_X2 4 (by decide) (index := 24) flX2_isPlace_24 rfl (v := .int (nI (hn h))) rfl dX2_isPlace_6 ?_
  refine lv_icmp_ge (tgt := 22) B.1 B.2.1 dX2_isPlace_9 (by decide) (fun c_9 => ?_) (fun c_9 => ?_)
  · have q_9 : (hn h) ≤ p := (nI_leI (by omega) (by omega)).mp c_9
    refine lv_iconst (v := nI 0) B.1 B.2.1 dX2_isPlace_22 (by decide) ?_
    exact r_eZ B hC (v := nI 0) (rfl) (⟨by rw [decide_eq_false (show ¬ p < hn h by omega)]; rfl, rfl⟩) dX2_isPlace_23
  · have q_9 : ¬ (hn h) ≤ p := fun z => c_9 ((nI_leI (by omega) (by omega)).mpr z)
    refine lv_iload_n B.1 B.2.1 dX2_isPlace_12 rfl (lv_at hl 1 rfl) ?_
    refine lv_bipush (v := nI 10) B.1 B.2.1 dX2_isPlace_13 (by decide) ?_
    refine lv_icmp_ge (tgt := 22) B.1 B.2.1 dX2_isPlace_15 (by decide) (fun z => absurd z (nI_ge (by omega) (by omega))) (fun _ => ?_)
    refine lv_iconst (v := nI 1) B.1 B.2.1 dX2_isPlace_18 (by decide) ?_
    refine lv_goto (tgt := 23) B.1 B.2.1 dX2_isPlace_19 (by decide) ?_
    exact r_eZ B hC (v := nI 1) (rfl) (⟨by rw [decide_eq_true (show p < hn h by omega)]; rfl, rfl⟩) dX2_isPlace_23
/-- a number that names a place -/
def isP (h : HV) (x : Int32) : Bool := decide (0 ≤ x) && decide (x < nI (hn h))
theorem isP_t {h : HV} (ok : HOK h) {x : Int32} (q : isP h x = true) : ∃ j, j < hn h ∧ x = nI j := by
  simp only [isP, Bool.and_eq_true, decide_eq_true_eq] at q
  have q0 : ¬ x < 0 := fun z => by
    rw [Int32.lt_iff_toInt_lt] at z
    have q1 := Int32.le_iff_toInt_le.mp q.1
    omega
  obtain ⟨j, hj, rfl⟩ := nI_of q0
  have := ok.1
  exact ⟨j, (nI_ltI hj (by omega)).mp q.2, rfl⟩
theorem isP_n {h : HV} (ok : HOK h) {j : Nat} (hj : j < hn h) : isP h (nI j) = true := by
  have := ok.1
  simp only [isP, Bool.and_eq_true, decide_eq_true_eq]
  exact ⟨nI_pos' (by omega), nI_lt hj (by omega)⟩
set_option maxHeartbeats 4000000 in
set_option maxRecDepth 100000 in
theorem ctX2_isPlace_any (l : Launch) (g : Gx) (lo : Nat) (ad : Nat → Nat) {F : Nat → va_E} {h : HV} (hH : HullC g ad F h) (ok : HOK h) {x : Int32} : MI l g lo 196 ad yX2_isPlace wsX2_isPlace 0 0 [.ref (ad (3)), .int (x)] F (fun r F' => r = bI (isP h x) ∧ F' = F) := by
  obtain ⟨g0, g1, g2, g3, g4⟩ := id hH
  have okn := ok.1
  have okp := ok.2.1
  have okh := ok.2.2.1
  refine enter (cc := cX2_isPlace) (maxL := 2) (ret := some .boolean) (own := RX2) (by decide +kernel) rfl rfl (Nat.le_of_ble_eq_true rfl) ?_
  intro pp ee ss mm below meth cc B hini hC ls hl
  have hl : lv_has ls 2 [(0, .ref (ad (3))), (1, .int (x))] := hl
  refine lv_iload_n B.1 B.2.1 dX2_isPlace_0 rfl (lv_at hl 1 rfl) ?_
  refine lv_if_lt (tgt := 22) B.1 B.2.1 dX2_isPlace_1 (by decide) (fun c_1 => ?_) (fun c_1 => ?_)
  · refine lv_iconst (v := nI 0) B.1 B.2.1 dX2_isPlace_22 (by decide) ?_
    exact r_eZ B hC (v := nI 0) (rfl) (⟨by rw [show isP h x = false by simp only [isP, Bool.and_eq_false_iff, decide_eq_false_iff_not]; exact Or.inl (fun z => by rw [Int32.le_iff_toInt_le] at z; rw [Int32.lt_iff_toInt_lt] at c_1; omega)]; rfl, rfl⟩) dX2_isPlace_23
  · refine lv_iload_n B.1 B.2.1 dX2_isPlace_4 rfl (lv_at hl 1 rfl) ?_
    refine lv_aload_n B.1 B.2.1 dX2_isPlace_5 rfl (lv_at hl 0 rfl) ?_
    refine r_cg B hC (i := 3) (by decide) g0 (C := RX2) (T := TX2) (n := 7) rfl iwX2_isPlace_X2 4 (by decide) (index := 24) flX2_isPlace_24 rfl (v := .int (nI (hn h))) rfl dX2_isPlace_6 ?_
    refine lv_icmp_ge (tgt := 22) B.1 B.2.1 dX2_isPlace_9 (by decide) (fun c_9 => ?_) (fun c_9 => ?_)
    · refine lv_iconst (v := nI 0) B.1 B.2.1 dX2_isPlace_22 (by decide) ?_
      exact r_eZ B hC (v := nI 0) (rfl) (⟨by rw [show isP h x = false by simp only [isP, Bool.and_eq_false_iff, decide_eq_false_iff_not]; exact Or.inr (fun z => by rw [Int32.lt_iff_toInt_lt] at z; rw [Int32.le_iff_toInt_le] at c_9; omega)]; rfl, rfl⟩) dX2_isPlace_23
    · have q_0 : 0 ≤ x := by rw [Int32.le_iff_toInt_le]; rw [Int32.lt_iff_toInt_lt] at c_1; omega
      have q_9 : x < nI (hn h) := by rw [Int32.lt_iff_toInt_lt]; rw [Int32.le_iff_toInt_le] at c_9; omega
      obtain ⟨j, hjn, hj⟩ := isP_t ok (show isP h x = true by simp only [isP, Bool.and_eq_true, decide_eq_true_eq]; exact ⟨q_0, q_9⟩)
      have hj31 : j < 2 ^ 31 := by omega
      refine lv_iload_n B.1 B.2.1 dX2_isPlace_12 rfl (lv_at hl 1 rfl) ?_
      refine lv_bipush (v := nI 10) B.1 B.2.1 dX2_isPlace_13 (by decide) ?_
      refine lv_icmp_ge (tgt := 22) B.1 B.2.1 dX2_isPlace_15 (by decide) (fun z => absurd z (fun z => absurd ((nI_leI (by decide) hj31).mp (hj ▸ z)) (by omega))) (fun _ => ?_)
      refine lv_iconst (v := nI 1) B.1 B.2.1 dX2_isPlace_18 (by decide) ?_
      refine lv_goto (tgt := 23) B.1 B.2.1 dX2_isPlace_19 (by decide) ?_
      exact r_eZ B hC (v := nI 1) (rfl) (⟨by rw [show isP h x = true by simp only [isP, Bool.and_eq_true, decide_eq_true_eq]; exact ⟨q_0, q_9⟩]; rfl, rfl⟩) dX2_isPlace_23
theorem iwX2_lengthOf_X2 : ∀ w ∈ u_ws RX2 TX2 7, w ∈ wsX2_lengthOf := by decide +kernel
theorem flX2_lengthOf_9 : Cond.fieldLink RX2 9 RX2 (TX2 0).2.1 (TX2 0).2.2.1 ∈ wsX2_lengthOf := by decide +kernel
theorem flX2_lengthOf_24 : Cond.fieldLink RX2 24 RX2 (TX2 4).2.1 (TX2 4).2.2.1 ∈ wsX2_lengthOf := by decide +kernel
set_option maxHeartbeats 4000000 in
set_option maxRecDepth 100000 in
theorem ctX2_lengthOf (l : Launch) (g : Gx) (lo : Nat) (ad : Nat → Nat) {F : Nat → va_E} {h : HV} (hH : HullC g ad F h) (ok : HOK h) {p : Nat} (hp : p < hn h) : MI l g lo 196 ad yX2_lengthOf wsX2_lengthOf 0 0 [.ref (ad (3)), .int (nI p)] F (fun r F' => r = nI (hle h p) ∧ F' = F) := by
  obtain ⟨g0, g1, g2, g3, g4⟩ := id hH
  have okn := ok.1
  have okp := ok.2.1
  have okh := ok.2.2.1
  refine enter (cc := cX2_lengthOf) (maxL := 2) (ret := some .int) (own := RX2) (by decide +kernel) rfl rfl (Nat.le_of_ble_eq_true rfl) ?_
  intro pp ee ss mm below meth cc B hini hC ls hl
  have hl : lv_has ls 2 [(0, .ref (ad (3))), (1, .int (nI p))] := hl
  refine lv_iload_n B.1 B.2.1 dX2_lengthOf_0 rfl (lv_at hl 1 rfl) ?_
  refine lv_if_lt (tgt := 30) B.1 B.2.1 dX2_lengthOf_1 (by decide) (fun z => absurd z (nI_pos (by omega))) (fun _ => ?_)
  refine lv_iload_n B.1 B.2.1 dX2_lengthOf_4 rfl (lv_at hl 1 rfl) ?_
  refine lv_aload_n B.1 B.2.1 dX2_lengthOf_5 rfl (lv_at hl 0 rfl) ?_
  refine r_cg B hC (i := 3) (by decide) g0 (C := RX2) (T := TX2) (n := 7) rfl iwX2_lengthOf_X2 4 (by decide) (index := 24) flX2_lengthOf_24 rfl (v := .int (nI (hn h))) rfl dX2_lengthOf_6 ?_
  refine lv_icmp_ge (tgt := 30) B.1 B.2.1 dX2_lengthOf_9 (by decide) (fun z => absurd z (nI_ge (by omega) (by omega))) (fun _ => ?_)
  refine lv_iload_n B.1 B.2.1 dX2_lengthOf_12 rfl (lv_at hl 1 rfl) ?_
  refine lv_aload_n B.1 B.2.1 dX2_lengthOf_13 rfl (lv_at hl 0 rfl) ?_
  refine r_cg B hC (i := 3) (by decide) g0 (C := RX2) (T := TX2) (n := 7) rfl iwX2_lengthOf_X2 0 (by decide) (index := 9) flX2_lengthOf_9 rfl (v := .ref (ad (4))) rfl dX2_lengthOf_14 ?_
  refine r_calen B hC (i := 4) (by decide) g1 0 rfl (n := 10) rfl dX2_lengthOf_17 ?_
  refine lv_icmp_ge (tgt := 30) B.1 B.2.1 dX2_lengthOf_18 (by decide) (fun z => absurd z (nI_ge (by omega) (by omega))) (fun _ => ?_)
  refine lv_aload_n B.1 B.2.1 dX2_lengthOf_21 rfl (lv_at hl 0 rfl) ?_
  refine r_cg B hC (i := 3) (by decide) g0 (C := RX2) (T := TX2) (n := 7) rfl iwX2_lengthOf_X2 0 (by decide) (index := 9) flX2_lengthOf_9 rfl (v := .ref (ad (4))) rfl dX2_lengthOf_22 ?_
  refine lv_iload_n B.1 B.2.1 dX2_lengthOf_25 rfl (lv_at hl 1 rfl) ?_
  refine r_cald B hC (i := 4) (by decide) g1 (j := p) (by omega) (by decide) dX2_lengthOf_26 ?_
  refine r_tI (y := nI (hle h p)) rfl ?_
  refine lv_goto (tgt := 31) B.1 B.2.1 dX2_lengthOf_27 (by decide) ?_
  exact r_eI B hC (v := nI (hle h p)) (⟨rfl, rfl⟩) dX2_lengthOf_31
theorem iwX2_letsIn_X2 : ∀ w ∈ u_ws RX2 TX2 7, w ∈ wsX2_letsIn := by decide +kernel
theorem flX2_letsIn_15 : Cond.fieldLink RX2 15 RX2 (TX2 1).2.1 (TX2 1).2.2.1 ∈ wsX2_letsIn := by decide +kernel
theorem flX2_letsIn_24 : Cond.fieldLink RX2 24 RX2 (TX2 4).2.1 (TX2 4).2.2.1 ∈ wsX2_letsIn := by decide +kernel
set_option maxHeartbeats 4000000 in
set_option maxRecDepth 100000 in
theorem ctX2_letsIn (l : Launch) (g : Gx) (lo : Nat) (ad : Nat → Nat) {F : Nat → va_E} {h : HV} (hH : HullC g ad F h) (ok : HOK h) {p : Nat} (hp : p < hn h) : MI l g lo 196 ad yX2_letsIn wsX2_letsIn 0 0 [.ref (ad (3)), .int (nI p)] F (fun r F' => r = nI (hin_ h p) ∧ F' = F) := by
  obtain ⟨g0, g1, g2, g3, g4⟩ := id hH
  have okn := ok.1
  have okp := ok.2.1
  have okh := ok.2.2.1
  refine enter (cc := cX2_letsIn) (maxL := 2) (ret := some .int) (own := RX2) (by decide +kernel) rfl rfl (Nat.le_of_ble_eq_true rfl) ?_
  intro pp ee ss mm below meth cc B hini hC ls hl
  have hl : lv_has ls 2 [(0, .ref (ad (3))), (1, .int (nI p))] := hl
  refine lv_iload_n B.1 B.2.1 dX2_letsIn_0 rfl (lv_at hl 1 rfl) ?_
  refine lv_if_lt (tgt := 30) B.1 B.2.1 dX2_letsIn_1 (by decide) (fun z => absurd z (nI_pos (by omega))) (fun _ => ?_)
  refine lv_iload_n B.1 B.2.1 dX2_letsIn_4 rfl (lv_at hl 1 rfl) ?_
  refine lv_aload_n B.1 B.2.1 dX2_letsIn_5 rfl (lv_at hl 0 rfl) ?_
  refine r_cg B hC (i := 3) (by decide) g0 (C := RX2) (T := TX2) (n := 7) rfl iwX2_letsIn_X2 4 (by decide) (index := 24) flX2_letsIn_24 rfl (v := .int (nI (hn h))) rfl dX2_letsIn_6 ?_
  refine lv_icmp_ge (tgt := 30) B.1 B.2.1 dX2_letsIn_9 (by decide) (fun z => absurd z (nI_ge (by omega) (by omega))) (fun _ => ?_)
  refine lv_iload_n B.1 B.2.1 dX2_letsIn_12 rfl (lv_at hl 1 rfl) ?_
  refine lv_aload_n B.1 B.2.1 dX2_letsIn_13 rfl (lv_at hl 0 rfl) ?_
  refine r_cg B hC (i := 3) (by decide) g0 (C := RX2) (T := TX2) (n := 7) rfl iwX2_letsIn_X2 1 (by decide) (index := 15) flX2_letsIn_15 rfl (v := .ref (ad (5))) rfl dX2_letsIn_14 ?_
  refine r_calen B hC (i := 5) (by decide) g2 0 rfl (n := 10) rfl dX2_letsIn_17 ?_
  refine lv_icmp_ge (tgt := 30) B.1 B.2.1 dX2_letsIn_18 (by decide) (fun z => absurd z (nI_ge (by omega) (by omega))) (fun _ => ?_)
  refine lv_aload_n B.1 B.2.1 dX2_letsIn_21 rfl (lv_at hl 0 rfl) ?_
  refine r_cg B hC (i := 3) (by decide) g0 (C := RX2) (T := TX2) (n := 7) rfl iwX2_letsIn_X2 1 (by decide) (index := 15) flX2_letsIn_15 rfl (v := .ref (ad (5))) rfl dX2_letsIn_22 ?_
  refine lv_iload_n B.1 B.2.1 dX2_letsIn_25 rfl (lv_at hl 1 rfl) ?_
  refine r_cald B hC (i := 5) (by decide) g2 (j := p) (by omega) (by decide) dX2_letsIn_26 ?_
  refine r_tI (y := nI (hin_ h p)) rfl ?_
  refine lv_goto (tgt := 31) B.1 B.2.1 dX2_letsIn_27 (by decide) ?_
  exact r_eI B hC (v := nI (hin_ h p)) (⟨rfl, rfl⟩) dX2_letsIn_31
theorem iwX2_shipOf_X2 : ∀ w ∈ u_ws RX2 TX2 7, w ∈ wsX2_shipOf := by decide +kernel
theorem flX2_shipOf_21 : Cond.fieldLink RX2 21 RX2 (TX2 3).2.1 (TX2 3).2.2.1 ∈ wsX2_shipOf := by decide +kernel
theorem flX2_shipOf_24 : Cond.fieldLink RX2 24 RX2 (TX2 4).2.1 (TX2 4).2.2.1 ∈ wsX2_shipOf := by decide +kernel
set_option maxHeartbeats 4000000 in
set_option maxRecDepth 100000 in
theorem ctX2_shipOf (l : Launch) (g : Gx) (lo : Nat) (ad : Nat → Nat) {F : Nat → va_E} {h : HV} (hH : HullC g ad F h) (ok : HOK h) {p : Nat} (hp : p < hn h) : MI l g lo 196 ad yX2_shipOf wsX2_shipOf 0 0 [.ref (ad (3)), .int (nI p)] F (fun r F' => r = oI (hsh h p) ∧ F' = F) := by
  obtain ⟨g0, g1, g2, g3, g4⟩ := id hH
  have okn := ok.1
  have okp := ok.2.1
  have okh := ok.2.2.1
  refine enter (cc := cX2_shipOf) (maxL := 2) (ret := some .int) (own := RX2) (by decide +kernel) rfl rfl (Nat.le_of_ble_eq_true rfl) ?_
  intro pp ee ss mm below meth cc B hini hC ls hl
  have hl : lv_has ls 2 [(0, .ref (ad (3))), (1, .int (nI p))] := hl
  refine lv_iload_n B.1 B.2.1 dX2_shipOf_0 rfl (lv_at hl 1 rfl) ?_
  refine lv_if_lt (tgt := 30) B.1 B.2.1 dX2_shipOf_1 (by decide) (fun z => absurd z (nI_pos (by omega))) (fun _ => ?_)
  refine lv_iload_n B.1 B.2.1 dX2_shipOf_4 rfl (lv_at hl 1 rfl) ?_
  refine lv_aload_n B.1 B.2.1 dX2_shipOf_5 rfl (lv_at hl 0 rfl) ?_
  refine r_cg B hC (i := 3) (by decide) g0 (C := RX2) (T := TX2) (n := 7) rfl iwX2_shipOf_X2 4 (by decide) (index := 24) flX2_shipOf_24 rfl (v := .int (nI (hn h))) rfl dX2_shipOf_6 ?_
  refine lv_icmp_ge (tgt := 30) B.1 B.2.1 dX2_shipOf_9 (by decide) (fun z => absurd z (nI_ge (by omega) (by omega))) (fun _ => ?_)
  refine lv_iload_n B.1 B.2.1 dX2_shipOf_12 rfl (lv_at hl 1 rfl) ?_
  refine lv_aload_n B.1 B.2.1 dX2_shipOf_13 rfl (lv_at hl 0 rfl) ?_
  refine r_cg B hC (i := 3) (by decide) g0 (C := RX2) (T := TX2) (n := 7) rfl iwX2_shipOf_X2 3 (by decide) (index := 21) flX2_shipOf_21 rfl (v := .ref (ad (7))) rfl dX2_shipOf_14 ?_
  refine r_calen B hC (i := 7) (by decide) g4 0 rfl (n := 10) rfl dX2_shipOf_17 ?_
  refine lv_icmp_ge (tgt := 30) B.1 B.2.1 dX2_shipOf_18 (by decide) (fun z => absurd z (nI_ge (by omega) (by omega))) (fun _ => ?_)
  refine lv_aload_n B.1 B.2.1 dX2_shipOf_21 rfl (lv_at hl 0 rfl) ?_
  refine r_cg B hC (i := 3) (by decide) g0 (C := RX2) (T := TX2) (n := 7) rfl iwX2_shipOf_X2 3 (by decide) (index := 21) flX2_shipOf_21 rfl (v := .ref (ad (7))) rfl dX2_shipOf_22 ?_
  refine lv_iload_n B.1 B.2.1 dX2_shipOf_25 rfl (lv_at hl 1 rfl) ?_
  refine r_cald B hC (i := 7) (by decide) g4 (j := p) (by omega) (by decide) dX2_shipOf_26 ?_
  refine r_tI (y := oI (hsh h p)) rfl ?_
  refine lv_goto (tgt := 32) B.1 B.2.1 dX2_shipOf_27 (by decide) ?_
  exact r_eI B hC (v := oI (hsh h p)) (⟨rfl, rfl⟩) dX2_shipOf_32
theorem iwX2_restsOn_X2 : ∀ w ∈ u_ws RX2 TX2 7, w ∈ wsX2_restsOn := by decide +kernel
theorem flX2_restsOn_18 : Cond.fieldLink RX2 18 RX2 (TX2 2).2.1 (TX2 2).2.2.1 ∈ wsX2_restsOn := by decide +kernel
theorem flX2_restsOn_24 : Cond.fieldLink RX2 24 RX2 (TX2 4).2.1 (TX2 4).2.2.1 ∈ wsX2_restsOn := by decide +kernel
set_option maxHeartbeats 4000000 in
set_option maxRecDepth 100000 in
theorem ctX2_restsOn (l : Launch) (g : Gx) (lo : Nat) (ad : Nat → Nat) {F : Nat → va_E} {h : HV} (hH : HullC g ad F h) (ok : HOK h) {p : Nat} (hp : p < 10) : MI l g lo 196 ad yX2_restsOn wsX2_restsOn 0 0 [.ref (ad (3)), .int (nI p)] F (fun r F' => r = oI (hreN h p) ∧ F' = F) := by
  obtain ⟨g0, g1, g2, g3, g4⟩ := id hH
  have okn := ok.1
  have okp := ok.2.1
  have okh := ok.2.2.1
  refine enter (cc := cX2_restsOn) (maxL := 2) (ret := some .int) (own := RX2) (by decide +kernel) rfl rfl (Nat.le_of_ble_eq_true rfl) ?_
  intro pp ee ss mm below meth cc B hini hC ls hl
  have hl : lv_has ls 2 [(0, .ref (ad (3))), (1, .int (nI p))] := hl
  refine lv_iload_n B.1 B.2.1 dX2_restsOn_0 rfl (lv_at hl 1 rfl) ?_
  refine lv_if_lt (tgt := 30) B.1 B.2.1 dX2_restsOn_1 (by decide) (fun z => absurd z (nI_pos (by omega))) (fun _ => ?_)
  refine lv_iload_n B.1 B.2.1 dX2_restsOn_4 rfl (lv_at hl 1 rfl) ?_
  refine lv_aload_n B.1 B.2.1 dX2_restsOn_5 rfl (lv_at hl 0 rfl) ?_
  refine r_cg B hC (i := 3) (by decide) g0 (C := RX2) (T := TX2) (n := 7) rfl iwX2_restsOn_X2 4 (by decide) (index := 24) flX2_restsOn_24 rfl (v := .int (nI (hn h))) rfl dX2_restsOn_6 ?_
  refine lv_icmp_ge (tgt := 30) B.1 B.2.1 dX2_restsOn_9 (by decide) (fun c_9 => ?_) (fun c_9 => ?_)
  · have q_9 : (hn h) ≤ p := (nI_leI (by omega) (by omega)).mp c_9
    refine lv_bipush (v := (-9)) B.1 B.2.1 dX2_restsOn_30 (by decide) ?_
    exact r_eI B hC (v := (-9)) (⟨by rw [hreN, if_neg (by omega)]; rfl, rfl⟩) dX2_restsOn_32
  · have q_9 : ¬ (hn h) ≤ p := fun z => c_9 ((nI_leI (by omega) (by omega)).mpr z)
    refine lv_iload_n B.1 B.2.1 dX2_restsOn_12 rfl (lv_at hl 1 rfl) ?_
    refine lv_aload_n B.1 B.2.1 dX2_restsOn_13 rfl (lv_at hl 0 rfl) ?_
    refine r_cg B hC (i := 3) (by decide) g0 (C := RX2) (T := TX2) (n := 7) rfl iwX2_restsOn_X2 2 (by decide) (index := 18) flX2_restsOn_18 rfl (v := .ref (ad (6))) rfl dX2_restsOn_14 ?_
    refine r_calen B hC (i := 6) (by decide) g3 0 rfl (n := 10) rfl dX2_restsOn_17 ?_
    refine lv_icmp_ge (tgt := 30) B.1 B.2.1 dX2_restsOn_18 (by decide) (fun z => absurd z (nI_ge (by omega) (by omega))) (fun _ => ?_)
    refine lv_aload_n B.1 B.2.1 dX2_restsOn_21 rfl (lv_at hl 0 rfl) ?_
    refine r_cg B hC (i := 3) (by decide) g0 (C := RX2) (T := TX2) (n := 7) rfl iwX2_restsOn_X2 2 (by decide) (index := 18) flX2_restsOn_18 rfl (v := .ref (ad (6))) rfl dX2_restsOn_22 ?_
    refine lv_iload_n B.1 B.2.1 dX2_restsOn_25 rfl (lv_at hl 1 rfl) ?_
    refine r_cald B hC (i := 6) (by decide) g3 (j := p) (by omega) (by decide) dX2_restsOn_26 ?_
    refine r_tI (y := oI (hre h p)) rfl ?_
    refine lv_goto (tgt := 32) B.1 B.2.1 dX2_restsOn_27 (by decide) ?_
    exact r_eI B hC (v := oI (hre h p)) (⟨by rw [hreN, if_pos (by omega)], rfl⟩) dX2_restsOn_32
theorem iwX2_leakOf_X2 : ∀ w ∈ u_ws RX2 TX2 7, w ∈ wsX2_leakOf := by decide +kernel
theorem flX2_leakOf_24 : Cond.fieldLink RX2 24 RX2 (TX2 4).2.1 (TX2 4).2.2.1 ∈ wsX2_leakOf := by decide +kernel
set_option maxHeartbeats 4000000 in
set_option maxRecDepth 100000 in
theorem ctX2_leakOf (l : Launch) (g : Gx) (lo : Nat) (ad : Nat → Nat) {F : Nat → va_E} {h : HV} (hH : HullC g ad F h) (ok : HOK h) {b : Nat} {w : LV} (hb : 8 ≤ b ∧ b + 5 ≤ 196) (hL : LoadC g ad F b w) (hw : LOK h w) : MI l g lo 196 ad yX2_leakOf wsX2_leakOf 1 21 [.ref (ad (3)), .ref (ad (b))] F (fun r F' => r = nI (leakV h w) ∧ F' = F) := by
  obtain ⟨g0, g1, g2, g3, g4⟩ := id hH
  have okn := ok.1
  have okp := ok.2.1
  have okh := ok.2.2.1
  obtain ⟨h0, h1, h2, h3, h4⟩ := id hL
  refine enter (cc := cX2_leakOf) (maxL := 4) (ret := some .int) (own := RX2) (by decide +kernel) rfl rfl (Nat.le_of_ble_eq_true rfl) ?_
  intro pp ee ss mm below meth cc B hini hC ls hl
  have hl : lv_has ls 4 [(0, .ref (ad (3))), (1, .ref (ad (b)))] := hl
  refine lv_iconst (v := nI 0) B.1 B.2.1 dX2_leakOf_0 (by decide) ?_
  refine lv_istore_n (lv' := [(2, .int (nI 0)), (0, .ref (ad (3))), (1, .ref (ad (b)))]) B.1 B.2.1 dX2_leakOf_1 rfl hl (by decide) rfl (fun ls hl => ?_)
  refine lv_iconst (v := nI 0) B.1 B.2.1 dX2_leakOf_2 (by decide) ?_
  refine lv_istore_n (lv' := [(3, .int (nI 0)), (2, .int (nI 0)), (0, .ref (ad (3))), (1, .ref (ad (b)))]) B.1 B.2.1 dX2_leakOf_3 rfl hl (by decide) rfl (fun ls hl => ?_)
  have loop4 : ∀ (k : Nat) (p a : Nat), (p + k = hn h) → (a = leakTo h w p) → ∀ (H : Heap) (locs : List Loc) (ls : Array Slot), Cu g lo 196 ad F ss ss.heap H locs → lv_has ls 4 [(3, .int (nI p)), (2, .int (nI a)), (0, .ref (ad (3))), (1, .ref (ad (b)))] → W pp l ee { frames := 1, cells := 0, slots := 0, locals := 21 } ss mm ([.ref (ad (3)), .ref (ad (b))] : List Value).toArray below meth cc H locs 0 0 (MQ below (va_Qi (fun r F' => r = nI (leakV h w) ∧ F' = F) (fun F' t => Wd g lo 196 ad F' t) (fun q => lo ≤ q)) ([.ref (ad (3)), .ref (ad (b))] : List Value).toArray ss 0 0 (fun q => lo ≤ q)) (F0 mm 4 ls []) := by
    intro k
    induction k with
    | zero =>
      intro p a hpk ha H locs ls hC hl
      refine lv_iload_n B.1 B.2.1 dX2_leakOf_4 rfl (lv_at hl 0 rfl) ?_
      refine lv_aload_n B.1 B.2.1 dX2_leakOf_5 rfl (lv_at hl 2 rfl) ?_
      refine r_cg B hC (i := 3) (by decide) g0 (C := RX2) (T := TX2) (n := 7) rfl iwX2_leakOf_X2 4 (by decide) (index := 24) flX2_leakOf_24 rfl (v := .int (nI (hn h))) rfl dX2_leakOf_6 ?_
      refine lv_icmp_ge (tgt := 38) B.1 B.2.1 dX2_leakOf_9 (by decide) (fun _ => ?_) (fun z => absurd (nI_le (by omega) (by omega)) z)
      refine lv_iload_n B.1 B.2.1 dX2_leakOf_38 rfl (lv_at hl 1 rfl) ?_
      exact r_eI B hC (v := nI a) (⟨by rw [ha, show p = hn h by omega]; rfl, rfl⟩) dX2_leakOf_39
    | succ k ih4 =>
      intro p a hpk ha H locs ls hC hl
      refine lv_iload_n B.1 B.2.1 dX2_leakOf_4 rfl (lv_at hl 0 rfl) ?_
      refine lv_aload_n B.1 B.2.1 dX2_leakOf_5 rfl (lv_at hl 2 rfl) ?_
      refine r_cg B hC (i := 3) (by decide) g0 (C := RX2) (T := TX2) (n := 7) rfl iwX2_leakOf_X2 4 (by decide) (index := 24) flX2_leakOf_24 rfl (v := .int (nI (hn h))) rfl dX2_leakOf_6 ?_
      refine lv_icmp_ge (tgt := 38) B.1 B.2.1 dX2_leakOf_9 (by decide) (fun z => absurd z (nI_ge (by omega) (by omega))) (fun _ => ?_)
      refine lv_iload_n B.1 B.2.1 dX2_leakOf_12 rfl (lv_at hl 1 rfl) ?_
      refine lv_aload_n B.1 B.2.1 dX2_leakOf_13 rfl (lv_at hl 3 rfl) ?_
      refine lv_iload_n B.1 B.2.1 dX2_leakOf_14 rfl (lv_at hl 0 rfl) ?_
      refine r_calli B hC hl.1 (b) 3 rfl rfl (by omega) h0 (As := [.int (nI p)]) (ctX3_isOpen l g lo ad hb hL (t := p) (by omega) (hw.t10 (by omega))) gX2_leakOf_X3_isOpen rfl (n := 1) rfl (by decide +kernel) ⟨Nat.le_of_ble_eq_true rfl, Nat.le_of_ble_eq_true rfl⟩ ⟨Nat.zero_le _, Nat.zero_le _⟩ rfl (Nat.le_of_ble_eq_true rfl) dX2_leakOf_15 (fun r15 F1 H locs hp15 hC => ?_)
      obtain ⟨er, eF⟩ := hp15
      subst er
      rw [eF] at hC
      refine lv_if_eq (tgt := 29) B.1 B.2.1 dX2_leakOf_18 (by decide) (fun c_18 => ?_) (fun c_18 => ?_)
      · have q_18 : (ti w p).isNone = false := bI_f.mp c_18
        refine lv_iconst (v := nI 0) B.1 B.2.1 dX2_leakOf_29 (by decide) ?_
        refine lv_iadd B.1 B.2.1 dX2_leakOf_30 ?_
        refine r_tI (y := nI (a + 0)) (nI_add _ _) ?_
        refine lv_istore_n (lv' := [(2, .int (nI (a + 0))), (3, .int (nI p)), (0, .ref (ad (3))), (1, .ref (ad (b)))]) B.1 B.2.1 dX2_leakOf_31 rfl hl (by decide) rfl (fun ls hl => ?_)
        refine lv_iinc (v := nI (p + 1)) (lv' := [(3, .int (nI (p + 1))), (2, .int (nI (a + 0))), (0, .ref (ad (3))), (1, .ref (ad (b)))]) B.1 B.2.1 dX2_leakOf_32 hl (k := 1) rfl (nI_1 _) (by decide) rfl (fun ls hl => ?_)
        refine lv_goto (tgt := 4) B.1 B.2.1 dX2_leakOf_35 (by decide) ?_
        exact ih4 (p + 1) ((a + 0)) (by omega) (by simp only [leakTo, ha]; cases hh : ti w p <;> simp_all) _ _ ls hC (lv_sub hl [0, 1, 2, 3] rfl)
      · have q_18 : (ti w p).isNone = true := bI_t.mp c_18
        refine lv_aload_n B.1 B.2.1 dX2_leakOf_21 rfl (lv_at hl 2 rfl) ?_
        refine lv_iload_n B.1 B.2.1 dX2_leakOf_22 rfl (lv_at hl 0 rfl) ?_
        refine r_calli B hC hl.1 (3) 2 rfl rfl (by decide) g0 (As := [.int (nI p)]) (ctX2_letsIn l g lo ad hH ok (p := p) (by omega)) gX2_leakOf_X2_letsIn rfl (n := 1) rfl (by decide +kernel) ⟨Nat.le_of_ble_eq_true rfl, Nat.le_of_ble_eq_true rfl⟩ ⟨Nat.zero_le _, Nat.zero_le _⟩ rfl (Nat.le_of_ble_eq_true rfl) dX2_leakOf_23 (fun r23 F1 H locs hp23 hC => ?_)
        obtain ⟨er, eF⟩ := hp23
        subst er
        rw [eF] at hC
        refine lv_goto (tgt := 30) B.1 B.2.1 dX2_leakOf_26 (by decide) ?_
        refine lv_iadd B.1 B.2.1 dX2_leakOf_30 ?_
        refine r_tI (y := nI (a + (hin_ h p))) (nI_add _ _) ?_
        refine lv_istore_n (lv' := [(2, .int (nI (a + (hin_ h p)))), (3, .int (nI p)), (0, .ref (ad (3))), (1, .ref (ad (b)))]) B.1 B.2.1 dX2_leakOf_31 rfl hl (by decide) rfl (fun ls hl => ?_)
        refine lv_iinc (v := nI (p + 1)) (lv' := [(3, .int (nI (p + 1))), (2, .int (nI (a + (hin_ h p)))), (0, .ref (ad (3))), (1, .ref (ad (b)))]) B.1 B.2.1 dX2_leakOf_32 hl (k := 1) rfl (nI_1 _) (by decide) rfl (fun ls hl => ?_)
        refine lv_goto (tgt := 4) B.1 B.2.1 dX2_leakOf_35 (by decide) ?_
        exact ih4 (p + 1) ((a + (hin_ h p))) (by omega) (by simp only [leakTo, ha]; cases hh : ti w p <;> simp_all) _ _ ls hC (lv_sub hl [0, 1, 2, 3] rfl)
  exact loop4 (hn h) 0 0 (by omega) rfl _ _ ls hC (lv_sub hl [0, 1, 2, 3] rfl)
theorem iwX2_openPlaces_X2 : ∀ w ∈ u_ws RX2 TX2 7, w ∈ wsX2_openPlaces := by decide +kernel
theorem flX2_openPlaces_24 : Cond.fieldLink RX2 24 RX2 (TX2 4).2.1 (TX2 4).2.2.1 ∈ wsX2_openPlaces := by decide +kernel
set_option maxHeartbeats 4000000 in
set_option maxRecDepth 100000 in
theorem ctX2_openPlaces (l : Launch) (g : Gx) (lo : Nat) (ad : Nat → Nat) {F : Nat → va_E} {h : HV} (hH : HullC g ad F h) (ok : HOK h) {b : Nat} {w : LV} (hb : 8 ≤ b ∧ b + 5 ≤ 196) (hL : LoadC g ad F b w) (hw : LOK h w) : MI l g lo 196 ad yX2_openPlaces wsX2_openPlaces 1 21 [.ref (ad (3)), .ref (ad (b))] F (fun r F' => r = nI (openTo w (hn h)) ∧ F' = F) := by
  obtain ⟨g0, g1, g2, g3, g4⟩ := id hH
  have okn := ok.1
  have okp := ok.2.1
  have okh := ok.2.2.1
  obtain ⟨h0, h1, h2, h3, h4⟩ := id hL
  refine enter (cc := cX2_openPlaces) (maxL := 4) (ret := some .int) (own := RX2) (by decide +kernel) rfl rfl (Nat.le_of_ble_eq_true rfl) ?_
  intro pp ee ss mm below meth cc B hini hC ls hl
  have hl : lv_has ls 4 [(0, .ref (ad (3))), (1, .ref (ad (b)))] := hl
  refine lv_iconst (v := nI 0) B.1 B.2.1 dX2_openPlaces_0 (by decide) ?_
  refine lv_istore_n (lv' := [(2, .int (nI 0)), (0, .ref (ad (3))), (1, .ref (ad (b)))]) B.1 B.2.1 dX2_openPlaces_1 rfl hl (by decide) rfl (fun ls hl => ?_)
  refine lv_iconst (v := nI 0) B.1 B.2.1 dX2_openPlaces_2 (by decide) ?_
  refine lv_istore_n (lv' := [(3, .int (nI 0)), (2, .int (nI 0)), (0, .ref (ad (3))), (1, .ref (ad (b)))]) B.1 B.2.1 dX2_openPlaces_3 rfl hl (by decide) rfl (fun ls hl => ?_)
  have loop4 : ∀ (k : Nat) (p a : Nat), (p + k = hn h) → (a = openTo w p) → ∀ (H : Heap) (locs : List Loc) (ls : Array Slot), Cu g lo 196 ad F ss ss.heap H locs → lv_has ls 4 [(3, .int (nI p)), (2, .int (nI a)), (0, .ref (ad (3))), (1, .ref (ad (b)))] → W pp l ee { frames := 1, cells := 0, slots := 0, locals := 21 } ss mm ([.ref (ad (3)), .ref (ad (b))] : List Value).toArray below meth cc H locs 0 0 (MQ below (va_Qi (fun r F' => r = nI (openTo w (hn h)) ∧ F' = F) (fun F' t => Wd g lo 196 ad F' t) (fun q => lo ≤ q)) ([.ref (ad (3)), .ref (ad (b))] : List Value).toArray ss 0 0 (fun q => lo ≤ q)) (F0 mm 4 ls []) := by
    intro k
    induction k with
    | zero =>
      intro p a hpk ha H locs ls hC hl
      refine lv_iload_n B.1 B.2.1 dX2_openPlaces_4 rfl (lv_at hl 0 rfl) ?_
      refine lv_aload_n B.1 B.2.1 dX2_openPlaces_5 rfl (lv_at hl 2 rfl) ?_
      refine r_cg B hC (i := 3) (by decide) g0 (C := RX2) (T := TX2) (n := 7) rfl iwX2_openPlaces_X2 4 (by decide) (index := 24) flX2_openPlaces_24 rfl (v := .int (nI (hn h))) rfl dX2_openPlaces_6 ?_
      refine lv_icmp_ge (tgt := 36) B.1 B.2.1 dX2_openPlaces_9 (by decide) (fun _ => ?_) (fun z => absurd (nI_le (by omega) (by omega)) z)
      refine lv_iload_n B.1 B.2.1 dX2_openPlaces_36 rfl (lv_at hl 1 rfl) ?_
      exact r_eI B hC (v := nI a) (⟨by rw [ha, show p = hn h by omega], rfl⟩) dX2_openPlaces_37
    | succ k ih4 =>
      intro p a hpk ha H locs ls hC hl
      refine lv_iload_n B.1 B.2.1 dX2_openPlaces_4 rfl (lv_at hl 0 rfl) ?_
      refine lv_aload_n B.1 B.2.1 dX2_openPlaces_5 rfl (lv_at hl 2 rfl) ?_
      refine r_cg B hC (i := 3) (by decide) g0 (C := RX2) (T := TX2) (n := 7) rfl iwX2_openPlaces_X2 4 (by decide) (index := 24) flX2_openPlaces_24 rfl (v := .int (nI (hn h))) rfl dX2_openPlaces_6 ?_
      refine lv_icmp_ge (tgt := 36) B.1 B.2.1 dX2_openPlaces_9 (by decide) (fun z => absurd z (nI_ge (by omega) (by omega))) (fun _ => ?_)
      refine lv_iload_n B.1 B.2.1 dX2_openPlaces_12 rfl (lv_at hl 1 rfl) ?_
      refine lv_aload_n B.1 B.2.1 dX2_openPlaces_13 rfl (lv_at hl 3 rfl) ?_
      refine lv_iload_n B.1 B.2.1 dX2_openPlaces_14 rfl (lv_at hl 0 rfl) ?_
      refine r_calli B hC hl.1 (b) 3 rfl rfl (by omega) h0 (As := [.int (nI p)]) (ctX3_isOpen l g lo ad hb hL (t := p) (by omega) (hw.t10 (by omega))) gX2_openPlaces_X3_isOpen rfl (n := 1) rfl (by decide +kernel) ⟨Nat.le_of_ble_eq_true rfl, Nat.le_of_ble_eq_true rfl⟩ ⟨Nat.zero_le _, Nat.zero_le _⟩ rfl (Nat.le_of_ble_eq_true rfl) dX2_openPlaces_15 (fun r15 F1 H locs hp15 hC => ?_)
      obtain ⟨er, eF⟩ := hp15
      subst er
      rw [eF] at hC
      refine lv_if_eq (tgt := 27) B.1 B.2.1 dX2_openPlaces_18 (by decide) (fun c_18 => ?_) (fun c_18 => ?_)
      · have q_18 : (ti w p).isNone = false := bI_f.mp c_18
        refine lv_iconst (v := nI 0) B.1 B.2.1 dX2_openPlaces_27 (by decide) ?_
        refine lv_ior B.1 B.2.1 dX2_openPlaces_28 ?_
        refine r_tI (y := nI (a + 0)) (by first | exact or_bit (by rw [ha]; exact openTo_lt w p) | (rw [nI_or, Nat.or_zero]; rfl)) ?_
        refine lv_istore_n (lv' := [(2, .int (nI (a + 0))), (3, .int (nI p)), (0, .ref (ad (3))), (1, .ref (ad (b)))]) B.1 B.2.1 dX2_openPlaces_29 rfl hl (by decide) rfl (fun ls hl => ?_)
        refine lv_iinc (v := nI (p + 1)) (lv' := [(3, .int (nI (p + 1))), (2, .int (nI (a + 0))), (0, .ref (ad (3))), (1, .ref (ad (b)))]) B.1 B.2.1 dX2_openPlaces_30 hl (k := 1) rfl (nI_1 _) (by decide) rfl (fun ls hl => ?_)
        refine lv_goto (tgt := 4) B.1 B.2.1 dX2_openPlaces_33 (by decide) ?_
        exact ih4 (p + 1) ((a + 0)) (by omega) (by simp only [openTo, ha]; cases hh : ti w p <;> simp_all) _ _ ls hC (lv_sub hl [0, 1, 2, 3] rfl)
      · have q_18 : (ti w p).isNone = true := bI_t.mp c_18
        refine lv_iconst (v := nI 1) B.1 B.2.1 dX2_openPlaces_21 (by decide) ?_
        refine lv_iload_n B.1 B.2.1 dX2_openPlaces_22 rfl (lv_at hl 0 rfl) ?_
        refine lv_ishl B.1 B.2.1 dX2_openPlaces_23 ?_
        refine r_tI (y := nI (2 ^ p)) (shl_1 p (by omega)) ?_
        refine lv_goto (tgt := 28) B.1 B.2.1 dX2_openPlaces_24 (by decide) ?_
        refine lv_ior B.1 B.2.1 dX2_openPlaces_28 ?_
        refine r_tI (y := nI (a + 2 ^ p)) (by first | exact or_bit (by rw [ha]; exact openTo_lt w p) | (rw [nI_or, Nat.or_zero]; rfl)) ?_
        refine lv_istore_n (lv' := [(2, .int (nI (a + 2 ^ p))), (3, .int (nI p)), (0, .ref (ad (3))), (1, .ref (ad (b)))]) B.1 B.2.1 dX2_openPlaces_29 rfl hl (by decide) rfl (fun ls hl => ?_)
        refine lv_iinc (v := nI (p + 1)) (lv' := [(3, .int (nI (p + 1))), (2, .int (nI (a + 2 ^ p))), (0, .ref (ad (3))), (1, .ref (ad (b)))]) B.1 B.2.1 dX2_openPlaces_30 hl (k := 1) rfl (nI_1 _) (by decide) rfl (fun ls hl => ?_)
        refine lv_goto (tgt := 4) B.1 B.2.1 dX2_openPlaces_33 (by decide) ?_
        exact ih4 (p + 1) ((a + 2 ^ p)) (by omega) (by simp only [openTo, ha]; cases hh : ti w p <;> simp_all) _ _ ls hC (lv_sub hl [0, 1, 2, 3] rfl)
  exact loop4 (hn h) 0 0 (by omega) rfl _ _ ls hC (lv_sub hl [0, 1, 2, 3] rfl)
theorem iwX2_mayBeTakenFrom_X2 : ∀ w ∈ u_ws RX2 TX2 7, w ∈ wsX2_mayBeTakenFrom := by decide +kernel
theorem flX2_mayBeTakenFrom_24 : Cond.fieldLink RX2 24 RX2 (TX2 4).2.1 (TX2 4).2.2.1 ∈ wsX2_mayBeTakenFrom := by decide +kernel
set_option maxHeartbeats 4000000 in
set_option maxRecDepth 100000 in
theorem ctX2_mayBeTakenFrom (l : Launch) (g : Gx) (lo : Nat) (ad : Nat → Nat) {F : Nat → va_E} {h : HV} (hH : HullC g ad F h) (ok : HOK h) {b : Nat} {w : LV} (hb : 8 ≤ b ∧ b + 5 ≤ 196) (hL : LoadC g ad F b w) (hw : LOK h w) {p : Nat} (hp : p < 10) : MI l g lo 196 ad yX2_mayBeTakenFrom wsX2_mayBeTakenFrom 1 21 [.ref (ad (3)), .int (nI p), .ref (ad (b))] F (fun r F' => r = bI (takeV h w p) ∧ F' = F) := by
  obtain ⟨g0, g1, g2, g3, g4⟩ := id hH
  have okn := ok.1
  have okp := ok.2.1
  have okh := ok.2.2.1
  obtain ⟨h0, h1, h2, h3, h4⟩ := id hL
  refine enter (cc := cX2_mayBeTakenFrom) (maxL := 4) (ret := some .boolean) (own := RX2) (by decide +kernel) rfl rfl (Nat.le_of_ble_eq_true rfl) ?_
  intro pp ee ss mm below meth cc B hini hC ls hl
  have hl : lv_has ls 4 [(0, .ref (ad (3))), (1, .int (nI p)), (2, .ref (ad (b)))] := hl
  refine lv_aload_n B.1 B.2.1 dX2_mayBeTakenFrom_0 rfl (lv_at hl 2 rfl) ?_
  refine lv_iload_n B.1 B.2.1 dX2_mayBeTakenFrom_1 rfl (lv_at hl 1 rfl) ?_
  refine r_calli B hC hl.1 (b) 3 rfl rfl (by omega) h0 (As := [.int (nI p)]) (ctX3_isOpen l g lo ad hb hL (t := p) (by omega) (hw.t10 (by omega))) gX2_mayBeTakenFrom_X3_isOpen rfl (n := 1) rfl (by decide +kernel) ⟨Nat.le_of_ble_eq_true rfl, Nat.le_of_ble_eq_true rfl⟩ ⟨Nat.zero_le _, Nat.zero_le _⟩ rfl (Nat.le_of_ble_eq_true rfl) dX2_mayBeTakenFrom_2 (fun r2 F1 H locs hp2 hC => ?_)
  obtain ⟨er, eF⟩ := hp2
  subst er
  rw [eF] at hC
  refine lv_if_eq (tgt := 10) B.1 B.2.1 dX2_mayBeTakenFrom_5 (by decide) (fun c_5 => ?_) (fun c_5 => ?_)
  · have q_5 : (ti w p).isNone = false := bI_f.mp c_5
    refine lv_iconst (v := nI 0) B.1 B.2.1 dX2_mayBeTakenFrom_10 (by decide) ?_
    refine lv_istore_n (lv' := [(3, .int (nI 0)), (0, .ref (ad (3))), (1, .int (nI p)), (2, .ref (ad (b)))]) B.1 B.2.1 dX2_mayBeTakenFrom_11 rfl hl (by decide) rfl (fun ls hl => ?_)
    have loop12 : ∀ (k : Nat) (o : Nat), (o + k = hn h) → (borneTo h w p o = false) → ∀ (H : Heap) (locs : List Loc) (ls : Array Slot), Cu g lo 196 ad F ss ss.heap H locs → lv_has ls 4 [(3, .int (nI o)), (0, .ref (ad (3))), (1, .int (nI p)), (2, .ref (ad (b)))] → W pp l ee { frames := 1, cells := 0, slots := 0, locals := 21 } ss mm ([.ref (ad (3)), .int (nI p), .ref (ad (b))] : List Value).toArray below meth cc H locs 0 0 (MQ below (va_Qi (fun r F' => r = bI (takeV h w p) ∧ F' = F) (fun F' t => Wd g lo 196 ad F' t) (fun q => lo ≤ q)) ([.ref (ad (3)), .int (nI p), .ref (ad (b))] : List Value).toArray ss 0 0 (fun q => lo ≤ q)) (F0 mm 12 ls []) := by
      intro k
      induction k with
      | zero =>
        intro o hpk hbo H locs ls hC hl
        refine lv_iload_n B.1 B.2.1 dX2_mayBeTakenFrom_12 rfl (lv_at hl 0 rfl) ?_
        refine lv_aload_n B.1 B.2.1 dX2_mayBeTakenFrom_13 rfl (lv_at hl 1 rfl) ?_
        refine r_cg B hC (i := 3) (by decide) g0 (C := RX2) (T := TX2) (n := 7) rfl iwX2_mayBeTakenFrom_X2 4 (by decide) (index := 24) flX2_mayBeTakenFrom_24 rfl (v := .int (nI (hn h))) rfl dX2_mayBeTakenFrom_14 ?_
        refine lv_icmp_ge (tgt := 45) B.1 B.2.1 dX2_mayBeTakenFrom_17 (by decide) (fun _ => ?_) (fun z => absurd (nI_le (by omega) (by omega)) z)
        refine lv_iconst (v := nI 1) B.1 B.2.1 dX2_mayBeTakenFrom_45 (by decide) ?_
        exact r_eZ B hC (v := nI 1) (rfl) (⟨by rw [takeV, show hn h = o by omega, hbo]; cases hh : ti w p <;> simp_all [bI]; rfl, rfl⟩) dX2_mayBeTakenFrom_46
      | succ k ih12 =>
        intro o hpk hbo H locs ls hC hl
        refine lv_iload_n B.1 B.2.1 dX2_mayBeTakenFrom_12 rfl (lv_at hl 0 rfl) ?_
        refine lv_aload_n B.1 B.2.1 dX2_mayBeTakenFrom_13 rfl (lv_at hl 1 rfl) ?_
        refine r_cg B hC (i := 3) (by decide) g0 (C := RX2) (T := TX2) (n := 7) rfl iwX2_mayBeTakenFrom_X2 4 (by decide) (index := 24) flX2_mayBeTakenFrom_24 rfl (v := .int (nI (hn h))) rfl dX2_mayBeTakenFrom_14 ?_
        refine lv_icmp_ge (tgt := 45) B.1 B.2.1 dX2_mayBeTakenFrom_17 (by decide) (fun z => absurd z (nI_ge (by omega) (by omega))) (fun _ => ?_)
        refine lv_aload_n B.1 B.2.1 dX2_mayBeTakenFrom_20 rfl (lv_at hl 1 rfl) ?_
        refine lv_iload_n B.1 B.2.1 dX2_mayBeTakenFrom_21 rfl (lv_at hl 0 rfl) ?_
        refine r_calli B hC hl.1 (3) 2 rfl rfl (by decide) g0 (As := [.int (nI o)]) (ctX2_restsOn l g lo ad hH ok (p := o) (by omega)) gX2_mayBeTakenFrom_X2_restsOn rfl (n := 1) rfl (by decide +kernel) ⟨Nat.le_of_ble_eq_true rfl, Nat.le_of_ble_eq_true rfl⟩ ⟨Nat.zero_le _, Nat.zero_le _⟩ rfl (Nat.le_of_ble_eq_true rfl) dX2_mayBeTakenFrom_22 (fun r22 F1 H locs hp22 hC => ?_)
        obtain ⟨er, eF⟩ := hp22
        subst er
        rw [eF] at hC
        refine lv_iload_n B.1 B.2.1 dX2_mayBeTakenFrom_25 rfl (lv_at hl 2 rfl) ?_
        refine lv_icmp_ne (tgt := 39) B.1 B.2.1 dX2_mayBeTakenFrom_26 (by decide) (fun c_26 => ?_) (fun c_26 => ?_)
        · have q_26 : ¬ hreN h o = some p := fun z => c_26 ((oI_eq (fun j hj => Nat.lt_trans (hreN_lt ok hj).1 (by decide)) (by omega)).mpr z)
          have q_27 : ¬ hre h o = some p := by rw [hreN, if_pos (by omega)] at q_26; exact q_26
          refine lv_iinc (v := nI (o + 1)) (lv' := [(3, .int (nI (o + 1))), (0, .ref (ad (3))), (1, .int (nI p)), (2, .ref (ad (b)))]) B.1 B.2.1 dX2_mayBeTakenFrom_39 hl (k := 0) rfl (nI_1 _) (by decide) rfl (fun ls hl => ?_)
          refine lv_goto (tgt := 12) B.1 B.2.1 dX2_mayBeTakenFrom_42 (by decide) ?_
          exact ih12 (o + 1) (by omega) (by simp only [borneTo, hbo, q_27]; cases hh : ti w o <;> simp_all) _ _ ls hC (lv_sub hl [0, 1, 2, 3] rfl)
        · have q_26 := (oI_eq (fun j hj => Nat.lt_trans (hreN_lt ok hj).1 (by decide)) (by omega)).mp c_26
          have q_27 : hre h o = some p := by rw [hreN, if_pos (by omega)] at q_26; exact q_26
          refine lv_aload_n B.1 B.2.1 dX2_mayBeTakenFrom_29 rfl (lv_at hl 3 rfl) ?_
          refine lv_iload_n B.1 B.2.1 dX2_mayBeTakenFrom_30 rfl (lv_at hl 0 rfl) ?_
          refine r_calli B hC hl.1 (b) 3 rfl rfl (by omega) h0 (As := [.int (nI o)]) (ctX3_isOpen l g lo ad hb hL (t := o) (by omega) (hw.t10 (by omega))) gX2_mayBeTakenFrom_X3_isOpen rfl (n := 1) rfl (by decide +kernel) ⟨Nat.le_of_ble_eq_true rfl, Nat.le_of_ble_eq_true rfl⟩ ⟨Nat.zero_le _, Nat.zero_le _⟩ rfl (Nat.le_of_ble_eq_true rfl) dX2_mayBeTakenFrom_31 (fun r31 F1 H locs hp31 hC => ?_)
          obtain ⟨er, eF⟩ := hp31
          subst er
          rw [eF] at hC
          refine lv_if_ne (tgt := 39) B.1 B.2.1 dX2_mayBeTakenFrom_34 (by decide) (fun c_34 => ?_) (fun c_34 => ?_)
          · have q_34 : (ti w o).isNone = true := bI_t.mp c_34
            refine lv_iinc (v := nI (o + 1)) (lv' := [(3, .int (nI (o + 1))), (0, .ref (ad (3))), (1, .int (nI p)), (2, .ref (ad (b)))]) B.1 B.2.1 dX2_mayBeTakenFrom_39 hl (k := 0) rfl (nI_1 _) (by decide) rfl (fun ls hl => ?_)
            refine lv_goto (tgt := 12) B.1 B.2.1 dX2_mayBeTakenFrom_42 (by decide) ?_
            exact ih12 (o + 1) (by omega) (by simp only [borneTo, hbo, q_27]; cases hh : ti w o <;> simp_all) _ _ ls hC (lv_sub hl [0, 1, 2, 3] rfl)
          · have q_34 : (ti w o).isNone = false := bI_f.mp c_34
            refine lv_iconst (v := nI 0) B.1 B.2.1 dX2_mayBeTakenFrom_37 (by decide) ?_
            exact r_eZ B hC (v := nI 0) (rfl) (⟨by
      have z : borneTo h w p (hn h) = true := by
        have z1 : borneTo h w p (o + 1) = true := by simp only [borneTo, q_27]; cases hh : ti w o <;> simp_all
        have z2 := borneTo_up z1 k
        rwa [show o + 1 + k = hn h by omega] at z2
      rw [takeV, z]; simp; rfl, rfl⟩) dX2_mayBeTakenFrom_38
    exact loop12 (hn h) 0 (by omega) rfl _ _ ls hC (lv_sub hl [0, 1, 2, 3] rfl)
  · have q_5 : (ti w p).isNone = true := bI_t.mp c_5
    refine lv_iconst (v := nI 0) B.1 B.2.1 dX2_mayBeTakenFrom_8 (by decide) ?_
    exact r_eZ B hC (v := nI 0) (rfl) (⟨by rw [takeV]; cases hh : ti w p <;> simp_all [bI]; rfl, rfl⟩) dX2_mayBeTakenFrom_9
set_option maxHeartbeats 4000000 in
set_option maxRecDepth 100000 in
theorem ctX2_fits (l : Launch) (g : Gx) (lo : Nat) (ad : Nat → Nat) {F : Nat → va_E} {h : HV} (hH : HullC g ad F h) (ok : HOK h) {b : Nat} {w : LV} (hb : 8 ≤ b ∧ b + 5 ≤ 196) (hL : LoadC g ad F b w) (hw : LOK h w) {t p : Nat} (ht : t < 10) (hp : p < 10) : MI l g lo 196 ad yX2_fits wsX2_fits 1 21 [.ref (ad (3)), .int (nI t), .int (nI p), .ref (ad (b))] F (fun r F' => r = bI (fitsV h w t p) ∧ F' = F) := by
  obtain ⟨g0, g1, g2, g3, g4⟩ := id hH
  have okn := ok.1
  have okp := ok.2.1
  have okh := ok.2.2.1
  obtain ⟨h0, h1, h2, h3, h4⟩ := id hL
  refine enter (cc := cX2_fits) (maxL := 5) (ret := some .boolean) (own := RX2) (by decide +kernel) rfl rfl (Nat.le_of_ble_eq_true rfl) ?_
  intro pp ee ss mm below meth cc B hini hC ls hl
  have hl : lv_has ls 5 [(0, .ref (ad (3))), (1, .int (nI t)), (2, .int (nI p)), (3, .ref (ad (b)))] := hl
  refine lv_aload_n B.1 B.2.1 dX2_fits_0 rfl (lv_at hl 0 rfl) ?_
  refine lv_iload_n B.1 B.2.1 dX2_fits_1 rfl (lv_at hl 2 rfl) ?_
  refine r_calli B hC hl.1 (3) 2 rfl rfl (by decide) g0 (As := [.int (nI p)]) (ctX2_restsOn l g lo ad hH ok (p := p) (by omega)) gX2_fits_X2_restsOn rfl (n := 1) rfl (by decide +kernel) ⟨Nat.le_of_ble_eq_true rfl, Nat.le_of_ble_eq_true rfl⟩ ⟨Nat.zero_le _, Nat.zero_le _⟩ rfl (Nat.le_of_ble_eq_true rfl) dX2_fits_2 (fun r2 F1 H locs hp2 hC => ?_)
  obtain ⟨er, eF⟩ := hp2
  subst er
  rw [eF] at hC
  refine lv_istore (lv' := [(4, .int (oI (hreN h p))), (0, .ref (ad (3))), (1, .int (nI t)), (2, .int (nI p)), (3, .ref (ad (b)))]) B.1 B.2.1 dX2_fits_5 hl (by decide) rfl (fun ls hl => ?_)
  refine lv_aload_n B.1 B.2.1 dX2_fits_7 rfl (lv_at hl 1 rfl) ?_
  refine lv_iload_n B.1 B.2.1 dX2_fits_8 rfl (lv_at hl 3 rfl) ?_
  refine r_calli B hC hl.1 (3) 2 rfl rfl (by decide) g0 (As := [.int (nI p)]) (ctX2_isPlace l g lo ad hH ok (p := p) (by omega)) gX2_fits_X2_isPlace rfl (n := 1) rfl (by decide +kernel) ⟨Nat.le_of_ble_eq_true rfl, Nat.le_of_ble_eq_true rfl⟩ ⟨Nat.zero_le _, Nat.zero_le _⟩ rfl (Nat.le_of_ble_eq_true rfl) dX2_fits_9 (fun r9 F1 H locs hp9 hC => ?_)
  obtain ⟨er, eF⟩ := hp9
  subst er
  rw [eF] at hC
  refine lv_if_eq (tgt := 56) B.1 B.2.1 dX2_fits_12 (by decide) (fun c_12 => ?_) (fun c_12 => ?_)
  · have q_12 : ¬ p < hn h := of_decide_eq_false (bI_f.mp c_12)
    refine lv_iconst (v := nI 0) B.1 B.2.1 dX2_fits_56 (by decide) ?_
    exact r_eZ B hC (v := nI 0) (rfl) (⟨by
      have z : fitsV h w t p = false := by
        simp [fitsV, bornV, q_12]
      rw [z]; rfl, rfl⟩) dX2_fits_57
  · have q_12 : p < hn h := of_decide_eq_true (bI_t.mp c_12)
    have w1 := (ok.2.2.2.1 p).1
    have w2 := (hw.1 t).2.1
    refine lv_aload_n B.1 B.2.1 dX2_fits_15 rfl (lv_at hl 4 rfl) ?_
    refine lv_iload_n B.1 B.2.1 dX2_fits_16 rfl (lv_at hl 3 rfl) ?_
    refine r_calli B hC hl.1 (b) 3 rfl rfl (by omega) h0 (As := [.int (nI p)]) (ctX3_isOpen l g lo ad hb hL (t := p) (by omega) (hw.t10 (by omega))) gX2_fits_X3_isOpen rfl (n := 1) rfl (by decide +kernel) ⟨Nat.le_of_ble_eq_true rfl, Nat.le_of_ble_eq_true rfl⟩ ⟨Nat.zero_le _, Nat.zero_le _⟩ rfl (Nat.le_of_ble_eq_true rfl) dX2_fits_17 (fun r17 F1 H locs hp17 hC => ?_)
    obtain ⟨er, eF⟩ := hp17
    subst er
    rw [eF] at hC
    refine lv_if_eq (tgt := 56) B.1 B.2.1 dX2_fits_20 (by decide) (fun c_20 => ?_) (fun c_20 => ?_)
    · have q_20 : (ti w p).isNone = false := bI_f.mp c_20
      refine lv_iconst (v := nI 0) B.1 B.2.1 dX2_fits_56 (by decide) ?_
      exact r_eZ B hC (v := nI 0) (rfl) (⟨by
      have z : fitsV h w t p = false := by
        simp [fitsV, bornV, q_12, q_20]
      rw [z]; rfl, rfl⟩) dX2_fits_57
    · have q_20 : (ti w p).isNone = true := bI_t.mp c_20
      refine lv_aload_n B.1 B.2.1 dX2_fits_23 rfl (lv_at hl 4 rfl) ?_
      refine lv_iload_n B.1 B.2.1 dX2_fits_24 rfl (lv_at hl 2 rfl) ?_
      refine r_calli B hC hl.1 (b) 3 rfl rfl (by omega) h0 (As := [.int (nI t)]) (ctX3_lengthOf l g lo ad hb hL (t := t) (by omega)) gX2_fits_X3_lengthOf rfl (n := 1) rfl (by decide +kernel) ⟨Nat.le_of_ble_eq_true rfl, Nat.le_of_ble_eq_true rfl⟩ ⟨Nat.zero_le _, Nat.zero_le _⟩ rfl (Nat.le_of_ble_eq_true rfl) dX2_fits_25 (fun r25 F1 H locs hp25 hC => ?_)
      obtain ⟨er, eF⟩ := hp25
      subst er
      rw [eF] at hC
      refine lv_aload_n B.1 B.2.1 dX2_fits_28 rfl (lv_at hl 1 rfl) ?_
      refine lv_iload_n B.1 B.2.1 dX2_fits_29 rfl (lv_at hl 3 rfl) ?_
      refine r_calli B hC hl.1 (3) 2 rfl rfl (by decide) g0 (As := [.int (nI p)]) (ctX2_lengthOf l g lo ad hH ok (p := p) (by omega)) gX2_fits_X2_lengthOf rfl (n := 1) rfl (by decide +kernel) ⟨Nat.le_of_ble_eq_true rfl, Nat.le_of_ble_eq_true rfl⟩ ⟨Nat.zero_le _, Nat.zero_le _⟩ rfl (Nat.le_of_ble_eq_true rfl) dX2_fits_30 (fun r30 F1 H locs hp30 hC => ?_)
      obtain ⟨er, eF⟩ := hp30
      subst er
      rw [eF] at hC
      refine lv_icmp_lt (tgt := 56) B.1 B.2.1 dX2_fits_33 (by decide) (fun c_33 => ?_) (fun c_33 => ?_)
      · have q_33 : (ln w t) < (hle h p) := (nI_ltI (by omega) (by omega)).mp c_33
        refine lv_iconst (v := nI 0) B.1 B.2.1 dX2_fits_56 (by decide) ?_
        exact r_eZ B hC (v := nI 0) (rfl) (⟨by
      have z : fitsV h w t p = false := by
        simp [fitsV, bornV, q_12, q_20, Nat.not_le.mpr q_33]
      rw [z]; rfl, rfl⟩) dX2_fits_57
      · have q_33 : ¬ (ln w t) < (hle h p) := fun z => c_33 ((nI_ltI (by omega) (by omega)).mpr z)
        refine lv_iload B.1 B.2.1 dX2_fits_36 (lv_at hl 0 rfl) ?_
        refine lv_bipush (v := (-9)) B.1 B.2.1 dX2_fits_38 (by decide) ?_
        refine lv_icmp_eq (tgt := 52) B.1 B.2.1 dX2_fits_40 (by decide) (fun c_40 => ?_) (fun c_40 => ?_)
        · have q_40 := (oI_9 (fun j hj => Nat.lt_trans (hreN_lt ok hj).1 (by decide))).mp c_40
          refine lv_iconst (v := nI 1) B.1 B.2.1 dX2_fits_52 (by decide) ?_
          refine lv_goto (tgt := 57) B.1 B.2.1 dX2_fits_53 (by decide) ?_
          exact r_eZ B hC (v := nI 1) (rfl) (⟨by
      have z : fitsV h w t p = true := by
        simp [fitsV, bornV, q_12, q_20, Nat.not_lt.mp q_33, q_40]
      rw [z]; rfl, rfl⟩) dX2_fits_57
        · have q_40 : ¬ hreN h p = none := fun z => c_40 ((oI_9 (fun j hj => Nat.lt_trans (hreN_lt ok hj).1 (by decide))).mpr z)
          obtain ⟨u, hu⟩ := Option.ne_none_iff_exists'.mp q_40
          have hu10 := (hreN_lt ok hu).1
          refine lv_aload_n B.1 B.2.1 dX2_fits_43 rfl (lv_at hl 4 rfl) ?_
          refine lv_iload B.1 B.2.1 dX2_fits_44 (lv_at hl 0 rfl) ?_
          refine r_tI (y := nI u) (by rw [hu]; rfl) ?_
          refine r_calli B hC hl.1 (b) 3 rfl rfl (by omega) h0 (As := [.int (nI u)]) (ctX3_isOpen l g lo ad hb hL (t := u) (by omega) (hw.t10 (by omega))) gX2_fits_X3_isOpen rfl (n := 1) rfl (by decide +kernel) ⟨Nat.le_of_ble_eq_true rfl, Nat.le_of_ble_eq_true rfl⟩ ⟨Nat.zero_le _, Nat.zero_le _⟩ rfl (Nat.le_of_ble_eq_true rfl) dX2_fits_46 (fun r46 F1 H locs hp46 hC => ?_)
          obtain ⟨er, eF⟩ := hp46
          subst er
          rw [eF] at hC
          refine lv_if_ne (tgt := 56) B.1 B.2.1 dX2_fits_49 (by decide) (fun c_49 => ?_) (fun c_49 => ?_)
          · have q_49 : (ti w u).isNone = true := bI_t.mp c_49
            refine lv_iconst (v := nI 0) B.1 B.2.1 dX2_fits_56 (by decide) ?_
            exact r_eZ B hC (v := nI 0) (rfl) (⟨by
      have z : fitsV h w t p = false := by
        have b49 : (ti w u).isSome = false := by cases hh : ti w u <;> simp_all
        simp [fitsV, bornV, q_12, q_20, Nat.not_lt.mp q_33, hu, b49]
      rw [z]; rfl, rfl⟩) dX2_fits_57
          · have q_49 : (ti w u).isNone = false := bI_f.mp c_49
            refine lv_iconst (v := nI 1) B.1 B.2.1 dX2_fits_52 (by decide) ?_
            refine lv_goto (tgt := 57) B.1 B.2.1 dX2_fits_53 (by decide) ?_
            exact r_eZ B hC (v := nI 1) (rfl) (⟨by
      have z : fitsV h w t p = true := by
        have b49 : (ti w u).isSome = true := by cases hh : ti w u <;> simp_all
        simp [fitsV, bornV, q_12, q_20, Nat.not_lt.mp q_33, hu, b49]
      rw [z]; rfl, rfl⟩) dX2_fits_57
set_option maxHeartbeats 4000000 in
set_option maxRecDepth 100000 in
theorem ctX2_mayBeMoved (l : Launch) (g : Gx) (lo : Nat) (ad : Nat → Nat) {F : Nat → va_E} {h : HV} (hH : HullC g ad F h) (ok : HOK h) {b : Nat} {w : LV} (hb : 8 ≤ b ∧ b + 5 ≤ 196) (hL : LoadC g ad F b w) (hw : LOK h w) {t p : Nat} (ht : t < 10) (hp : p < 10) : MI l g lo 196 ad yX2_mayBeMoved wsX2_mayBeMoved 2 45 [.ref (ad (3)), .int (nI t), .int (nI p), .ref (ad (b))] F (fun r F' => r = bI (mayV h w t p) ∧ F' = F) := by
  obtain ⟨g0, g1, g2, g3, g4⟩ := id hH
  have okn := ok.1
  have okp := ok.2.1
  have okh := ok.2.2.1
  obtain ⟨h0, h1, h2, h3, h4⟩ := id hL
  have hwt := (hw.1 t).1
  refine enter (cc := cX2_mayBeMoved) (maxL := 5) (ret := some .boolean) (own := RX2) (by decide +kernel) rfl rfl (Nat.le_of_ble_eq_true rfl) ?_
  intro pp ee ss mm below meth cc B hini hC ls hl
  have hl : lv_has ls 5 [(0, .ref (ad (3))), (1, .int (nI t)), (2, .int (nI p)), (3, .ref (ad (b)))] := hl
  refine lv_aload_n B.1 B.2.1 dX2_mayBeMoved_0 rfl (lv_at hl 3 rfl) ?_
  refine lv_iload_n B.1 B.2.1 dX2_mayBeMoved_1 rfl (lv_at hl 1 rfl) ?_
  refine r_calli B hC hl.1 (b) 3 rfl rfl (by omega) h0 (As := [.int (nI t)]) (ctX3_whereIs l g lo ad hb hL (t := t) (by omega)) gX2_mayBeMoved_X3_whereIs rfl (n := 1) rfl (by decide +kernel) ⟨Nat.le_of_ble_eq_true rfl, Nat.le_of_ble_eq_true rfl⟩ ⟨Nat.zero_le _, Nat.zero_le _⟩ rfl (Nat.le_of_ble_eq_true rfl) dX2_mayBeMoved_2 (fun r2 F1 H locs hp2 hC => ?_)
  obtain ⟨er, eF⟩ := hp2
  subst er
  rw [eF] at hC
  refine lv_istore (lv' := [(4, .int (nI (wh w t))), (0, .ref (ad (3))), (1, .int (nI t)), (2, .int (nI p)), (3, .ref (ad (b)))]) B.1 B.2.1 dX2_mayBeMoved_5 hl (by decide) rfl (fun ls hl => ?_)
  refine lv_iload B.1 B.2.1 dX2_mayBeMoved_7 (lv_at hl 0 rfl) ?_
  refine lv_bipush (v := nI 100) B.1 B.2.1 dX2_mayBeMoved_9 (by decide) ?_
  refine lv_icmp_ne (tgt := 22) B.1 B.2.1 dX2_mayBeMoved_11 (by decide) (fun c_11 => ?_) (fun c_11 => ?_)
  · have q_11 : ¬ (wh w t) = 100 := fun z => c_11 ((nI_eq (by omega) (by omega)).mpr z)
    refine lv_aload_n B.1 B.2.1 dX2_mayBeMoved_22 rfl (lv_at hl 1 rfl) ?_
    refine lv_iload B.1 B.2.1 dX2_mayBeMoved_23 (lv_at hl 0 rfl) ?_
    refine r_calli B hC hl.1 (3) 2 rfl rfl (by decide) g0 (As := [.int (nI (wh w t))]) (ctX2_isPlace l g lo ad hH ok (p := (wh w t)) (by omega)) gX2_mayBeMoved_X2_isPlace rfl (n := 1) rfl (by decide +kernel) ⟨Nat.le_of_ble_eq_true rfl, Nat.le_of_ble_eq_true rfl⟩ ⟨Nat.zero_le _, Nat.zero_le _⟩ rfl (Nat.le_of_ble_eq_true rfl) dX2_mayBeMoved_25 (fun r25 F1 H locs hp25 hC => ?_)
    obtain ⟨er, eF⟩ := hp25
    subst er
    rw [eF] at hC
    refine lv_if_eq (tgt := 65) B.1 B.2.1 dX2_mayBeMoved_28 (by decide) (fun c_28 => ?_) (fun c_28 => ?_)
    · have q_28 : ¬ wh w t < hn h := of_decide_eq_false (bI_f.mp c_28)
      refine lv_iconst (v := nI 0) B.1 B.2.1 dX2_mayBeMoved_65 (by decide) ?_
      exact r_eZ B hC (v := nI 0) (rfl) (⟨by
      have z : mayV h w t p = false := by
        rw [mayV, if_neg q_11]
        simp [q_28]
      rw [z]; rfl, rfl⟩) dX2_mayBeMoved_66
    · have q_28 : wh w t < hn h := of_decide_eq_true (bI_t.mp c_28)
      refine lv_aload_n B.1 B.2.1 dX2_mayBeMoved_31 rfl (lv_at hl 1 rfl) ?_
      refine lv_iload B.1 B.2.1 dX2_mayBeMoved_32 (lv_at hl 0 rfl) ?_
      refine lv_aload_n B.1 B.2.1 dX2_mayBeMoved_34 rfl (lv_at hl 4 rfl) ?_
      refine r_calli B hC hl.1 (3) 2 rfl rfl (by decide) g0 (As := [.int (nI (wh w t)), .ref (ad (b))]) (ctX2_mayBeTakenFrom l g lo ad hH ok hb hL hw (p := (wh w t)) (by omega)) gX2_mayBeMoved_X2_mayBeTakenFrom rfl (n := 2) rfl (by decide +kernel) ⟨Nat.le_of_ble_eq_true rfl, Nat.le_of_ble_eq_true rfl⟩ ⟨Nat.zero_le _, Nat.zero_le _⟩ rfl (Nat.le_of_ble_eq_true rfl) dX2_mayBeMoved_35 (fun r35 F1 H locs hp35 hC => ?_)
      obtain ⟨er, eF⟩ := hp35
      subst er
      rw [eF] at hC
      refine lv_if_eq (tgt := 65) B.1 B.2.1 dX2_mayBeMoved_38 (by decide) (fun c_38 => ?_) (fun c_38 => ?_)
      · have q_38 : (takeV h w ((wh w t))) = false := bI_f.mp c_38
        refine lv_iconst (v := nI 0) B.1 B.2.1 dX2_mayBeMoved_65 (by decide) ?_
        exact r_eZ B hC (v := nI 0) (rfl) (⟨by
      have z : mayV h w t p = false := by
        rw [mayV, if_neg q_11]
        simp [q_28, q_38]
      rw [z]; rfl, rfl⟩) dX2_mayBeMoved_66
      · have q_38 : (takeV h w ((wh w t))) = true := bI_t.mp c_38
        refine lv_aload_n B.1 B.2.1 dX2_mayBeMoved_41 rfl (lv_at hl 1 rfl) ?_
        refine lv_iload_n B.1 B.2.1 dX2_mayBeMoved_42 rfl (lv_at hl 3 rfl) ?_
        refine r_calli B hC hl.1 (3) 2 rfl rfl (by decide) g0 (As := [.int (nI p)]) (ctX2_restsOn l g lo ad hH ok (p := p) (by omega)) gX2_mayBeMoved_X2_restsOn rfl (n := 1) rfl (by decide +kernel) ⟨Nat.le_of_ble_eq_true rfl, Nat.le_of_ble_eq_true rfl⟩ ⟨Nat.zero_le _, Nat.zero_le _⟩ rfl (Nat.le_of_ble_eq_true rfl) dX2_mayBeMoved_43 (fun r43 F1 H locs hp43 hC => ?_)
        obtain ⟨er, eF⟩ := hp43
        subst er
        rw [eF] at hC
        refine lv_iload B.1 B.2.1 dX2_mayBeMoved_46 (lv_at hl 0 rfl) ?_
        refine lv_icmp_eq (tgt := 65) B.1 B.2.1 dX2_mayBeMoved_48 (by decide) (fun c_48 => ?_) (fun c_48 => ?_)
        · have q_48 := (oI_eq (fun j hj => Nat.lt_trans (hreN_lt ok hj).1 (by decide)) (by omega)).mp c_48
          refine lv_iconst (v := nI 0) B.1 B.2.1 dX2_mayBeMoved_65 (by decide) ?_
          exact r_eZ B hC (v := nI 0) (rfl) (⟨by
      have z : mayV h w t p = false := by
        rw [mayV, if_neg q_11]
        simp [q_28, q_38, q_48]
      rw [z]; rfl, rfl⟩) dX2_mayBeMoved_66
        · have q_48 : ¬ hreN h p = some (wh w t) := fun z => c_48 ((oI_eq (fun j hj => Nat.lt_trans (hreN_lt ok hj).1 (by decide)) (by omega)).mpr z)
          refine lv_aload_n B.1 B.2.1 dX2_mayBeMoved_51 rfl (lv_at hl 1 rfl) ?_
          refine lv_iload_n B.1 B.2.1 dX2_mayBeMoved_52 rfl (lv_at hl 2 rfl) ?_
          refine lv_iload_n B.1 B.2.1 dX2_mayBeMoved_53 rfl (lv_at hl 3 rfl) ?_
          refine lv_aload_n B.1 B.2.1 dX2_mayBeMoved_54 rfl (lv_at hl 4 rfl) ?_
          refine r_calli B hC hl.1 (3) 2 rfl rfl (by decide) g0 (As := [.int (nI t), .int (nI p), .ref (ad (b))]) (ctX2_fits l g lo ad hH ok hb hL hw (t := t) (p := p) (by omega) (by omega)) gX2_mayBeMoved_X2_fits rfl (n := 3) rfl (by decide +kernel) ⟨Nat.le_of_ble_eq_true rfl, Nat.le_of_ble_eq_true rfl⟩ ⟨Nat.zero_le _, Nat.zero_le _⟩ rfl (Nat.le_of_ble_eq_true rfl) dX2_mayBeMoved_55 (fun r55 F1 H locs hp55 hC => ?_)
          obtain ⟨er, eF⟩ := hp55
          subst er
          rw [eF] at hC
          refine lv_if_eq (tgt := 65) B.1 B.2.1 dX2_mayBeMoved_58 (by decide) (fun c_58 => ?_) (fun c_58 => ?_)
          · have q_58 : (fitsV h w t p) = false := bI_f.mp c_58
            refine lv_iconst (v := nI 0) B.1 B.2.1 dX2_mayBeMoved_65 (by decide) ?_
            exact r_eZ B hC (v := nI 0) (rfl) (⟨by
      have z : mayV h w t p = false := by
        rw [mayV, if_neg q_11]
        simp [q_28, q_38, q_48, q_58]
      rw [z]; rfl, rfl⟩) dX2_mayBeMoved_66
          · have q_58 : (fitsV h w t p) = true := bI_t.mp c_58
            refine lv_iconst (v := nI 1) B.1 B.2.1 dX2_mayBeMoved_61 (by decide) ?_
            refine lv_goto (tgt := 66) B.1 B.2.1 dX2_mayBeMoved_62 (by decide) ?_
            exact r_eZ B hC (v := nI 1) (rfl) (⟨by
      have z : mayV h w t p = true := by
        rw [mayV, if_neg q_11]
        simp [q_28, q_38, q_48, q_58]
      rw [z]; rfl, rfl⟩) dX2_mayBeMoved_66
  · have q_11 : (wh w t) = 100 := (nI_eq (by omega) (by omega)).mp c_11
    refine lv_aload_n B.1 B.2.1 dX2_mayBeMoved_14 rfl (lv_at hl 1 rfl) ?_
    refine lv_iload_n B.1 B.2.1 dX2_mayBeMoved_15 rfl (lv_at hl 2 rfl) ?_
    refine lv_iload_n B.1 B.2.1 dX2_mayBeMoved_16 rfl (lv_at hl 3 rfl) ?_
    refine lv_aload_n B.1 B.2.1 dX2_mayBeMoved_17 rfl (lv_at hl 4 rfl) ?_
    refine r_calli B hC hl.1 (3) 2 rfl rfl (by decide) g0 (As := [.int (nI t), .int (nI p), .ref (ad (b))]) (ctX2_fits l g lo ad hH ok hb hL hw (t := t) (p := p) (by omega) (by omega)) gX2_mayBeMoved_X2_fits rfl (n := 3) rfl (by decide +kernel) ⟨Nat.le_of_ble_eq_true rfl, Nat.le_of_ble_eq_true rfl⟩ ⟨Nat.zero_le _, Nat.zero_le _⟩ rfl (Nat.le_of_ble_eq_true rfl) dX2_mayBeMoved_18 (fun r18 F1 H locs hp18 hC => ?_)
    obtain ⟨er, eF⟩ := hp18
    subst er
    rw [eF] at hC
    exact r_eZ B hC (v := bI (fitsV h w t p)) (nar_b _) (⟨by rw [mayV, if_pos q_11], rfl⟩) dX2_mayBeMoved_21
set_option maxHeartbeats 4000000 in
set_option maxRecDepth 100000 in
theorem ctX2_hangsInAir (l : Launch) (g : Gx) (lo : Nat) (ad : Nat → Nat) {F : Nat → va_E} {h : HV} (hH : HullC g ad F h) (ok : HOK h) {b : Nat} {w : LV} (hb : 8 ≤ b ∧ b + 5 ≤ 196) (hL : LoadC g ad F b w) (hw : LOK h w) {p : Nat} (hp : p < hn h) : MI l g lo 196 ad yX2_hangsInAir wsX2_hangsInAir 1 21 [.ref (ad (3)), .int (nI p), .ref (ad (b))] F (fun r F' => r = bI (hangV h w p) ∧ F' = F) := by
  obtain ⟨g0, g1, g2, g3, g4⟩ := id hH
  have okn := ok.1
  have okp := ok.2.1
  have okh := ok.2.2.1
  obtain ⟨h0, h1, h2, h3, h4⟩ := id hL
  refine enter (cc := cX2_hangsInAir) (maxL := 3) (ret := some .boolean) (own := RX2) (by decide +kernel) rfl rfl (Nat.le_of_ble_eq_true rfl) ?_
  intro pp ee ss mm below meth cc B hini hC ls hl
  have hl : lv_has ls 3 [(0, .ref (ad (3))), (1, .int (nI p)), (2, .ref (ad (b)))] := hl
  refine lv_aload_n B.1 B.2.1 dX2_hangsInAir_0 rfl (lv_at hl 0 rfl) ?_
  refine lv_iload_n B.1 B.2.1 dX2_hangsInAir_1 rfl (lv_at hl 1 rfl) ?_
  refine r_calli B hC hl.1 (3) 2 rfl rfl (by decide) g0 (As := [.int (nI p)]) (ctX2_restsOn l g lo ad hH ok (p := p) (by omega)) gX2_hangsInAir_X2_restsOn rfl (n := 1) rfl (by decide +kernel) ⟨Nat.le_of_ble_eq_true rfl, Nat.le_of_ble_eq_true rfl⟩ ⟨Nat.zero_le _, Nat.zero_le _⟩ rfl (Nat.le_of_ble_eq_true rfl) dX2_hangsInAir_2 (fun r2 F1 H locs hp2 hC => ?_)
  obtain ⟨er, eF⟩ := hp2
  subst er
  rw [eF] at hC
  refine lv_bipush (v := (-9)) B.1 B.2.1 dX2_hangsInAir_5 (by decide) ?_
  refine lv_icmp_eq (tgt := 26) B.1 B.2.1 dX2_hangsInAir_7 (by decide) (fun c_7 => ?_) (fun c_7 => ?_)
  · have q_7 := (oI_9 (fun j hj => Nat.lt_trans (hreN_lt ok hj).1 (by decide))).mp c_7
    rw [hreN, if_pos hp] at q_7
    refine lv_iconst (v := nI 0) B.1 B.2.1 dX2_hangsInAir_26 (by decide) ?_
    exact r_eZ B hC (v := nI 0) (rfl) (⟨by
      have z : hangV h w p = false := by
        simp [hangV, q_7]
      rw [z]; rfl, rfl⟩) dX2_hangsInAir_27
  · have q_7 : ¬ hreN h p = none := fun z => c_7 ((oI_9 (fun j hj => Nat.lt_trans (hreN_lt ok hj).1 (by decide))).mpr z)
    obtain ⟨u, hu⟩ := Option.ne_none_iff_exists'.mp q_7
    have hu10 := (hreN_lt ok hu).1
    have hu2 := (hreN_lt ok hu).2.2.2
    refine lv_aload_n B.1 B.2.1 dX2_hangsInAir_10 rfl (lv_at hl 2 rfl) ?_
    refine lv_aload_n B.1 B.2.1 dX2_hangsInAir_11 rfl (lv_at hl 0 rfl) ?_
    refine lv_iload_n B.1 B.2.1 dX2_hangsInAir_12 rfl (lv_at hl 1 rfl) ?_
    refine r_calli B hC hl.1 (3) 2 rfl rfl (by decide) g0 (As := [.int (nI p)]) (ctX2_restsOn l g lo ad hH ok (p := p) (by omega)) gX2_hangsInAir_X2_restsOn rfl (n := 1) rfl (by decide +kernel) ⟨Nat.le_of_ble_eq_true rfl, Nat.le_of_ble_eq_true rfl⟩ ⟨Nat.zero_le _, Nat.zero_le _⟩ rfl (Nat.le_of_ble_eq_true rfl) dX2_hangsInAir_13 (fun r13 F1 H locs hp13 hC => ?_)
    obtain ⟨er, eF⟩ := hp13
    subst er
    rw [eF] at hC
    refine r_tI (y := nI u) (by rw [hu]; rfl) ?_
    refine r_calli B hC hl.1 (b) 3 rfl rfl (by omega) h0 (As := [.int (nI u)]) (ctX3_isOpen l g lo ad hb hL (t := u) (by omega) (hw.t10 (by omega))) gX2_hangsInAir_X3_isOpen rfl (n := 1) rfl (by decide +kernel) ⟨Nat.le_of_ble_eq_true rfl, Nat.le_of_ble_eq_true rfl⟩ ⟨Nat.zero_le _, Nat.zero_le _⟩ rfl (Nat.le_of_ble_eq_true rfl) dX2_hangsInAir_16 (fun r16 F1 H locs hp16 hC => ?_)
    obtain ⟨er, eF⟩ := hp16
    subst er
    rw [eF] at hC
    refine lv_if_eq (tgt := 26) B.1 B.2.1 dX2_hangsInAir_19 (by decide) (fun c_19 => ?_) (fun c_19 => ?_)
    · have q_19 : (ti w u).isNone = false := bI_f.mp c_19
      refine lv_iconst (v := nI 0) B.1 B.2.1 dX2_hangsInAir_26 (by decide) ?_
      exact r_eZ B hC (v := nI 0) (rfl) (⟨by
      have z : hangV h w p = false := by
        simp [hangV, hu2, q_19]
      rw [z]; rfl, rfl⟩) dX2_hangsInAir_27
    · have q_19 : (ti w u).isNone = true := bI_t.mp c_19
      refine lv_iconst (v := nI 1) B.1 B.2.1 dX2_hangsInAir_22 (by decide) ?_
      refine lv_goto (tgt := 27) B.1 B.2.1 dX2_hangsInAir_23 (by decide) ?_
      exact r_eZ B hC (v := nI 1) (rfl) (⟨by
      have z : hangV h w p = true := by
        simp [hangV, hu2, q_19]
      rw [z]; rfl, rfl⟩) dX2_hangsInAir_27
end
section
/-! what bringTo, the worms, the coming down and a WATCH keep -/
theorem bring_ti {h : HV} {w : LV} (ok : HOK h) (k : LOK h w) {t x : Nat} (ht : t < hn h) (hx : x < 10 → x < hn h ∧ ti w x = none) (p s : Nat) (hp : p < 10) : (ti (bringV w t x) p = some s ↔ s < 10 ∧ wh (bringV w t x) s = p) := by
  have hn10 := ok.1
  have kk := k.2.2.2.1
  show ((if x < 10 then va_up (bringT w t) x (some t) else bringT w t) p = some s ↔ s < 10 ∧ va_up (wh w) t x s = p)
  have hB : x ≠ p → (bringT w t p = some s ↔ s ≠ t ∧ s < 10 ∧ wh w s = p) := by
    intro hxp
    unfold bringT
    by_cases hw10 : wh w t < 10
    · rw [if_pos hw10]
      by_cases hpw : p = wh w t
      · rw [hpw, va_up_self]
        constructor
        · intro z; cases z
        · intro ⟨z1, z2, z3⟩
          have a1 := (kk (wh w t) t hw10).mpr ⟨by omega, rfl⟩
          have a2 := (kk (wh w t) s hw10).mpr ⟨z2, z3⟩
          rw [a1] at a2
          cases a2
          exact absurd rfl z1
      · rw [va_up_ne _ _ hpw, kk p s hp]
        constructor
        · intro ⟨z1, z2⟩
          exact ⟨fun e => hpw (by rw [← z2, e]), z1, z2⟩
        · intro ⟨_, z1, z2⟩; exact ⟨z1, z2⟩
    · rw [if_neg hw10, kk p s hp]
      constructor
      · intro ⟨z1, z2⟩
        exact ⟨fun e => hw10 (by rw [← e, z2]; exact hp), z1, z2⟩
      · intro ⟨_, z1, z2⟩; exact ⟨z1, z2⟩
  by_cases hst : s = t
  · subst hst
    rw [va_up_self]
    by_cases hx10 : x < 10
    · rw [if_pos hx10]
      by_cases hpx : p = x
      · subst hpx; rw [va_up_self]; exact ⟨fun _ => ⟨by omega, rfl⟩, fun _ => rfl⟩
      · rw [va_up_ne _ _ hpx, hB (fun e => hpx e.symm)]
        exact ⟨fun z => absurd rfl z.1, fun z => absurd z.2.symm hpx⟩
    · rw [if_neg hx10, hB (by omega)]
      exact ⟨fun z => absurd rfl z.1, fun z => absurd z.2 (by omega)⟩
  · rw [va_up_ne _ _ hst]
    by_cases hx10 : x < 10
    · rw [if_pos hx10]
      by_cases hpx : p = x
      · subst hpx
        rw [va_up_self]
        constructor
        · intro z; cases z; exact absurd rfl hst
        · intro z
          have := (kk p s hp).mpr z
          rw [(hx hx10).2] at this
          cases this
      · rw [va_up_ne _ _ hpx, hB (fun e => hpx e.symm)]
        exact ⟨fun z => z.2, fun z => ⟨hst, z⟩⟩
    · rw [if_neg hx10, hB (by omega)]
      exact ⟨fun z => z.2, fun z => ⟨hst, z⟩⟩
theorem bring_can {w : LV} (k : CAN w) {t x : Nat} (ht : t < 10) : CAN (bringV w t x) := by
  intro j hj
  obtain ⟨k1, k2, k3, k4⟩ := k j hj
  have hB : bringT w t j = some 0 := by
    unfold bringT
    split
    · rw [va_up_ne _ _ (by omega)]; exact k4
    · exact k4
  refine ⟨?_, k2, k3, ?_⟩
  · show va_up (wh w) t x j = 0
    rw [va_up_ne _ _ (by omega)]; exact k1
  · show (if x < 10 then va_up (bringT w t) x (some t) else bringT w t) j = some 0
    split
    · rw [va_up_ne _ _ (by omega)]; exact hB
    · exact hB
theorem LOK_bring {h : HV} {w : LV} (ok : HOK h) (k : LOK h w) {t x : Nat} (ht : t < hn h) (hx : x = 200 ∨ (wo w t ≤ 9 ∧ (x = 100 ∨ (x < hn h ∧ ti w x = none)))) : LOK h (bringV w t x) := by
  have hn10 := ok.1
  obtain ⟨k1, k2, k3, k4, k5, k6, k7, k8⟩ := id k
  refine ⟨fun s => ?_, k2, k3, bring_ti ok k ht (fun z => ?_), fun s hs => ?_, fun s h1 h2 => ?_, fun s h1 h2 => ?_, bring_can k8 (by omega)⟩
  · refine ⟨?_, (k1 s).2⟩
    show va_up (wh w) t x s ≤ 200
    by_cases e : s = t
    · rw [e, va_up_self]; omega
    · rw [va_up_ne _ _ e]; exact (k1 s).1
  · rcases hx with e | ⟨_, e | e⟩
    · omega
    · omega
    · exact e
  · show va_up (wh w) t x s < hn h ∨ va_up (wh w) t x s = 100 ∨ va_up (wh w) t x s = 200
    by_cases e : s = t
    · rw [e, va_up_self]; omega
    · rw [va_up_ne _ _ e]; exact k5 s hs
  · show va_up (wh w) t x s = 200
    rw [va_up_ne _ _ (by omega)]; exact k6 s h1 h2
  · show wo w s ≤ 9
    have h3 : va_up (wh w) t x s ≠ 200 := h2
    by_cases e : s = t
    · rw [e, va_up_self] at h3
      rcases hx with e2 | e2
      · exact absurd e2 h3
      · rw [e]; exact e2.1
    · rw [va_up_ne _ _ e] at h3; exact k7 s h1 h3
/-- a timber in a place is one of the hull's -/
theorem LOK.in_ {h : HV} {w : LV} (ok : HOK h) (k : LOK h w) {p t : Nat} (hp : p < 10) (q : ti w p = some t) : t < hn h := by
  obtain ⟨h1, h2, h3⟩ := k.tn ok hp q
  rcases Nat.lt_or_ge t (hn h) with z | z
  · exact z
  · have := k.2.2.2.2.2.1 t z h1
    have := ok.1
    omega
theorem LOK_water {h : HV} {w : LV} (k : LOK h w) {x : Nat} (h1 : x ≤ 300) (h2 : su w = false → x ≤ hho h) : LOK h (waterV w x) := ⟨k.1, h1, h2, k.2.2.2⟩
theorem LOK_sink {h : HV} {w : LV} (k : LOK h w) {x : Nat} (h1 : x ≤ 300) : LOK h (sinkV (waterV w x)) := ⟨k.1, h1, fun z => (by cases (show true = false from z)), k.2.2.2⟩
theorem LOK_down1 {h : HV} {w : LV} (ok : HOK h) (k : LOK h w) {p : Nat} (hp : p < 10) : LOK h (down1 h w p) := by
  unfold down1
  cases hh : ti w p with
  | none => exact k
  | some t =>
    show LOK h (if hangV h w p = true then bringV w t 100 else w)
    split
    · have q := k.tn ok hp hh
      exact LOK_bring ok k (k.in_ ok hp hh) (Or.inr ⟨k.2.2.2.2.2.2.1 t q.1 (by omega), Or.inl rfl⟩)
    · exact k
theorem LOK_downTo {h : HV} {w : LV} (ok : HOK h) (k : LOK h w) : ∀ {p : Nat}, p ≤ 10 → LOK h (downTo h w p)
  | 0, _ => k
  | p + 1, hp => LOK_down1 ok (LOK_downTo ok k (by omega)) (by omega)
theorem worm_wo (w : LV) (t : Nat) : wo (wormV w t) t = wo w t + 1 := va_up_self _ _ _
theorem LOK_worm {h : HV} {w : LV} (k : LOK h w) {t : Nat} (ht : t < 10) (h9 : wo w t < 9) : LOK h (wormV w t) := by
  obtain ⟨k1, k2, k3, k4, k5, k6, k7, k8⟩ := k
  refine ⟨fun s => ⟨(k1 s).1, (k1 s).2.1, ?_⟩, k2, k3, k4, k5, k6, fun s h1 h2 => ?_, fun j hj => ⟨(k8 j hj).1, (k8 j hj).2.1, ?_, (k8 j hj).2.2.2⟩⟩
  · show va_up (wo w) t (wo w t + 1) s ≤ 10
    by_cases e : s = t
    · rw [e, va_up_self]; omega
    · rw [va_up_ne _ _ e]; exact (k1 s).2.2
  · show va_up (wo w) t (wo w t + 1) s ≤ 9
    by_cases e : s = t
    · rw [e, va_up_self]; omega
    · rw [va_up_ne _ _ e]; exact k7 s h1 h2
  · show va_up (wo w) t (wo w t + 1) j = 0
    rw [va_up_ne _ _ (by omega)]; exact (k8 j hj).2.2.1
theorem LOK_worm10 {h : HV} {w : LV} (ok : HOK h) (k : LOK h w) {t : Nat} (ht : t < hn h) (h9 : wo w t ≤ 9) : LOK h (bringV (wormV w t) t 200) := by
  have hn10 := ok.1
  have kb := LOK_bring ok k ht (x := 200) (Or.inl rfl)
  obtain ⟨k1, k2, k3, k4, k5, k6, k7, k8⟩ := kb
  obtain ⟨j1, j2, j3, j4, j5, j6, j7, j8⟩ := k
  refine ⟨fun s => ⟨(k1 s).1, (k1 s).2.1, ?_⟩, k2, k3, k4, k5, k6, fun s h1 h2 => ?_, fun j hj => ⟨(k8 j hj).1, (k8 j hj).2.1, ?_, (k8 j hj).2.2.2⟩⟩
  · show va_up (wo w) t (wo w t + 1) s ≤ 10
    by_cases e : s = t
    · rw [e, va_up_self]; omega
    · rw [va_up_ne _ _ e]; exact (j1 s).2.2
  · show va_up (wo w) t (wo w t + 1) s ≤ 9
    have h3 : va_up (wh w) t 200 s ≠ 200 := h2
    by_cases e : s = t
    · rw [e, va_up_self] at h3; exact absurd rfl h3
    · rw [va_up_ne _ _ e] at h3 ⊢; exact j7 s h1 h3
  · show va_up (wo w) t (wo w t + 1) j = 0
    rw [va_up_ne _ _ (by omega)]; exact (j8 j hj).2.2.1
theorem LOK_worm1 {h : HV} {w : LV} (ok : HOK h) (k : LOK h w) {p : Nat} (hp : p < 10) : LOK h (worm1 w p) := by
  unfold worm1
  cases hh : ti w p with
  | none => exact k
  | some t =>
    have ht := k.in_ ok hp hh
    have q := k.tn ok hp hh
    have h9 := k.2.2.2.2.2.2.1 t q.1 (by omega)
    show LOK h (if 0 < wo w t then (if 10 ≤ wo (wormV w t) t then bringV (wormV w t) t 200 else wormV w t) else w)
    split
    · split
      · exact LOK_worm10 ok k ht h9
      · next z => rw [worm_wo] at z; exact LOK_worm k q.1 (by omega)
    · exact k
theorem LOK_wormTo {h : HV} {w : LV} (ok : HOK h) (k : LOK h w) : ∀ {p : Nat}, p ≤ 10 → LOK h (wormTo w p)
  | 0, _ => k
  | p + 1, hp => LOK_worm1 ok (LOK_wormTo ok k (by omega)) (by omega)
theorem waterN_le {h : HV} {w : LV} (ok : HOK h) (k : LOK h w) (hs : su w = false) : waterN h w ≤ 300 := by
  have := leakV_le (w := w) ok
  have := k.2.2.1 hs
  have := ok.2.2.1
  unfold waterN
  omega
theorem LOK_watch {h : HV} {w : LV} (ok : HOK h) (k : LOK h w) (hs : su w = false) : LOK h (watchV h w) := by
  unfold watchV
  have hx := waterN_le ok k hs
  split
  · exact LOK_sink k hx
  · exact LOK_downTo ok (LOK_wormTo ok (LOK_water k hx (fun _ => by omega)) ok.1) ok.1
theorem max_sub {a b : Nat} (ha : a < 2 ^ 30) (hb : b < 2 ^ 30) : (if nI 0 < nI a - nI b then nI a - nI b else nI 0) = nI (a - b) := by
  have e := pk_sub_toInt ha hb
  by_cases h : b < a
  · rw [if_pos (by rw [Int32.lt_iff_toInt_lt, nI_toInt (by decide), e]; omega), pk_sub (by omega)]
  · rw [if_neg (by rw [Int32.lt_iff_toInt_lt, nI_toInt (by decide), e]; omega), show a - b = 0 by omega]
end
section
/-! HULL: what changes a Load -/
set_option maxHeartbeats 4000000 in
set_option maxRecDepth 100000 in
theorem ctX2_bringInto (l : Launch) (g : Gx) (lo : Nat) (ad : Nat → Nat) {F : Nat → va_E} {h : HV} (hH : HullC g ad F h) (ok : HOK h) {b : Nat} {w : LV} (hb : 8 ≤ b ∧ b + 5 ≤ 196) (hL : LoadC g ad F b w) (hw : LOK h w) {t p : Nat} (ht : t < 10) (hp : p < hn h) : MV l g lo 196 ad yX2_bringInto wsX2_bringInto 1 23 [.ref (ad (3)), .int (nI t), .int (nI p), .ref (ad (b))] F (fun F' => LoadC g ad F' b (cutV' h w t p) ∧ Same b (b + 5) F F') := by
  obtain ⟨g0, g1, g2, g3, g4⟩ := id hH
  have okn := ok.1
  have okp := ok.2.1
  have okh := ok.2.2.1
  obtain ⟨h0, h1, h2, h3, h4⟩ := id hL
  have hwt := (hw.1 t).1
  refine enter (cc := cX2_bringInto) (maxL := 4) (ret := none) (own := RX2) (by decide +kernel) rfl rfl (Nat.le_of_ble_eq_true rfl) ?_
  intro pp ee ss mm below meth cc B hini hC ls hl
  have hl : lv_has ls 4 [(0, .ref (ad (3))), (1, .int (nI t)), (2, .int (nI p)), (3, .ref (ad (b)))] := hl
  refine lv_aload_n B.1 B.2.1 dX2_bringInto_0 rfl (lv_at hl 3 rfl) ?_
  refine lv_iload_n B.1 B.2.1 dX2_bringInto_1 rfl (lv_at hl 1 rfl) ?_
  refine lv_iload_n B.1 B.2.1 dX2_bringInto_2 rfl (lv_at hl 2 rfl) ?_
  refine r_callv B hC hl.1 (b) 3 rfl rfl (by omega) h0 (As := [.int (nI t), .int (nI p)]) (ctX3_bringTo l g lo ad hb hL (t := t) (x := p) ht hwt (by omega)) gX2_bringInto_X3_bringTo rfl (n := 2) rfl (by decide +kernel) ⟨Nat.le_of_ble_eq_true rfl, Nat.le_of_ble_eq_true rfl⟩ ⟨Nat.zero_le _, Nat.zero_le _⟩ rfl (Nat.le_of_ble_eq_true rfl) dX2_bringInto_3 (fun F1 H locs hp3 hC => ?_)
  obtain ⟨hL_F1, hs_F1⟩ := hp3
  have hH_F1 := HullC.keep hH hs_F1 (by omega)
  obtain ⟨h0_F1, h1_F1, h2_F1, h3_F1, h4_F1⟩ := id hL_F1
  obtain ⟨g0_F1, g1_F1, g2_F1, g3_F1, g4_F1⟩ := id hH_F1
  refine lv_aload_n B.1 B.2.1 dX2_bringInto_6 rfl (lv_at hl 3 rfl) ?_
  refine lv_iload_n B.1 B.2.1 dX2_bringInto_7 rfl (lv_at hl 1 rfl) ?_
  refine lv_aload_n B.1 B.2.1 dX2_bringInto_8 rfl (lv_at hl 0 rfl) ?_
  refine lv_iload_n B.1 B.2.1 dX2_bringInto_9 rfl (lv_at hl 2 rfl) ?_
  refine r_calli B hC hl.1 (3) 2 rfl rfl (by decide) g0_F1 (As := [.int (nI p)]) (ctX2_lengthOf l g lo ad hH_F1 ok (p := p) (by omega)) gX2_bringInto_X2_lengthOf rfl (n := 1) rfl (by decide +kernel) ⟨Nat.le_of_ble_eq_true rfl, Nat.le_of_ble_eq_true rfl⟩ ⟨Nat.zero_le _, Nat.zero_le _⟩ rfl (Nat.le_of_ble_eq_true rfl) dX2_bringInto_10 (fun r10 F2 H locs hp10 hC => ?_)
  obtain ⟨er, eF⟩ := hp10
  subst er
  rw [eF] at hC
  refine r_callv B hC hl.1 (b) 3 rfl rfl (by omega) h0_F1 (As := [.int (nI t), .int (nI (hle h p))]) (ctX3_cutTo l g lo ad hb hL_F1 (t := t) (x := hle h p) ht) gX2_bringInto_X3_cutTo rfl (n := 2) rfl (by decide +kernel) ⟨Nat.le_of_ble_eq_true rfl, Nat.le_of_ble_eq_true rfl⟩ ⟨Nat.zero_le _, Nat.zero_le _⟩ rfl (Nat.le_of_ble_eq_true rfl) dX2_bringInto_13 (fun F2 H locs hp13 hC => ?_)
  obtain ⟨hL_F2, hs_F2⟩ := hp13
  have hH_F2 := HullC.keep hH_F1 hs_F2 (by omega)
  obtain ⟨h0_F2, h1_F2, h2_F2, h3_F2, h4_F2⟩ := id hL_F2
  obtain ⟨g0_F2, g1_F2, g2_F2, g3_F2, g4_F2⟩ := id hH_F2
  exact r_eV B hC (⟨hL_F2, (Same.tr2 (Same.wide hs_F1 (by omega) (by omega)) hs_F2 (by omega) (by omega))⟩) dX2_bringInto_16
theorem iwX2_letComeDown_X2 : ∀ w ∈ u_ws RX2 TX2 7, w ∈ wsX2_letComeDown := by decide +kernel
theorem flX2_letComeDown_24 : Cond.fieldLink RX2 24 RX2 (TX2 4).2.1 (TX2 4).2.2.1 ∈ wsX2_letComeDown := by decide +kernel
set_option maxHeartbeats 4000000 in
set_option maxRecDepth 100000 in
theorem ctX2_letComeDown (l : Launch) (g : Gx) (lo : Nat) (ad : Nat → Nat) {F : Nat → va_E} {h : HV} (hH : HullC g ad F h) (ok : HOK h) {b : Nat} {w : LV} (hb : 8 ≤ b ∧ b + 5 ≤ 196) (hL : LoadC g ad F b w) (hw : LOK h w) : MV l g lo 196 ad yX2_letComeDown wsX2_letComeDown 2 43 [.ref (ad (3)), .ref (ad (b))] F (fun F' => LoadC g ad F' b (downTo h w (hn h)) ∧ Same b (b + 5) F F') := by
  obtain ⟨g0, g1, g2, g3, g4⟩ := id hH
  have okn := ok.1
  have okp := ok.2.1
  have okh := ok.2.2.1
  obtain ⟨h0, h1, h2, h3, h4⟩ := id hL
  refine enter (cc := cX2_letComeDown) (maxL := 3) (ret := none) (own := RX2) (by decide +kernel) rfl rfl (Nat.le_of_ble_eq_true rfl) ?_
  intro pp ee ss mm below meth cc B hini hC ls hl
  have hl : lv_has ls 3 [(0, .ref (ad (3))), (1, .ref (ad (b)))] := hl
  refine lv_iconst (v := nI 0) B.1 B.2.1 dX2_letComeDown_0 (by decide) ?_
  refine lv_istore_n (lv' := [(2, .int (nI 0)), (0, .ref (ad (3))), (1, .ref (ad (b)))]) B.1 B.2.1 dX2_letComeDown_1 rfl hl (by decide) rfl (fun ls hl => ?_)
  have loop2 : ∀ (k : Nat) (p : Nat) (u : LV) (G : Nat → va_E), (p + k = hn h) → (LoadC g ad G b u) → (HullC g ad G h) → (LOK h u) → (Same b (b + 5) F G) → (u = downTo h w p) → ∀ (H : Heap) (locs : List Loc) (ls : Array Slot), Cu g lo 196 ad G ss ss.heap H locs → lv_has ls 3 [(2, .int (nI p)), (0, .ref (ad (3))), (1, .ref (ad (b)))] → W pp l ee { frames := 2, cells := 0, slots := 0, locals := 43 } ss mm ([.ref (ad (3)), .ref (ad (b))] : List Value).toArray below meth cc H locs 0 0 (MQ below (va_Qv (fun F' => LoadC g ad F' b (downTo h w (hn h)) ∧ Same b (b + 5) F F') (fun F' t => Wd g lo 196 ad F' t) (fun q => lo ≤ q)) ([.ref (ad (3)), .ref (ad (b))] : List Value).toArray ss 0 0 (fun q => lo ≤ q)) (F0 mm 2 ls []) := by
    intro k
    induction k with
    | zero =>
      intro p u G hpk hLG hHG hu hs hu0 H locs ls hC hl
      obtain ⟨g0, g1, g2, g3, g4⟩ := id hHG
      obtain ⟨h0, h1, h2, h3, h4⟩ := id hLG
      refine lv_iload_n B.1 B.2.1 dX2_letComeDown_2 rfl (lv_at hl 0 rfl) ?_
      refine lv_aload_n B.1 B.2.1 dX2_letComeDown_3 rfl (lv_at hl 1 rfl) ?_
      refine r_cg B hC (i := 3) (by decide) g0 (C := RX2) (T := TX2) (n := 7) rfl iwX2_letComeDown_X2 4 (by decide) (index := 24) flX2_letComeDown_24 rfl (v := .int (nI (hn h))) rfl dX2_letComeDown_4 ?_
      refine lv_icmp_ge (tgt := 44) B.1 B.2.1 dX2_letComeDown_7 (by decide) (fun _ => ?_) (fun z => absurd (nI_le (by omega) (by omega)) z)
      exact r_eV B hC (⟨by rw [show hn h = p by omega, ← hu0]; exact hLG, hs⟩) dX2_letComeDown_44
    | succ k ih2 =>
      intro p u G hpk hLG hHG hu hs hu0 H locs ls hC hl
      obtain ⟨g0, g1, g2, g3, g4⟩ := id hHG
      obtain ⟨h0, h1, h2, h3, h4⟩ := id hLG
      refine lv_iload_n B.1 B.2.1 dX2_letComeDown_2 rfl (lv_at hl 0 rfl) ?_
      refine lv_aload_n B.1 B.2.1 dX2_letComeDown_3 rfl (lv_at hl 1 rfl) ?_
      refine r_cg B hC (i := 3) (by decide) g0 (C := RX2) (T := TX2) (n := 7) rfl iwX2_letComeDown_X2 4 (by decide) (index := 24) flX2_letComeDown_24 rfl (v := .int (nI (hn h))) rfl dX2_letComeDown_4 ?_
      refine lv_icmp_ge (tgt := 44) B.1 B.2.1 dX2_letComeDown_7 (by decide) (fun z => absurd z (nI_ge (by omega) (by omega))) (fun _ => ?_)
      refine lv_aload_n B.1 B.2.1 dX2_letComeDown_10 rfl (lv_at hl 2 rfl) ?_
      refine lv_iload_n B.1 B.2.1 dX2_letComeDown_11 rfl (lv_at hl 0 rfl) ?_
      refine r_calli B hC hl.1 (b) 3 rfl rfl (by omega) h0 (As := [.int (nI p)]) (ctX3_isOpen l g lo ad hb hLG (t := p) (by omega) (hu.t10 (by omega))) gX2_letComeDown_X3_isOpen rfl (n := 1) rfl (by decide +kernel) ⟨Nat.le_of_ble_eq_true rfl, Nat.le_of_ble_eq_true rfl⟩ ⟨Nat.zero_le _, Nat.zero_le _⟩ rfl (Nat.le_of_ble_eq_true rfl) dX2_letComeDown_12 (fun r12 F21 H locs hp12 hC => ?_)
      obtain ⟨er, eF⟩ := hp12
      subst er
      rw [eF] at hC
      refine lv_if_ne (tgt := 38) B.1 B.2.1 dX2_letComeDown_15 (by decide) (fun c_15 => ?_) (fun c_15 => ?_)
      · have q_15 : (ti u p).isNone = true := bI_t.mp c_15
        have q_16 : ti u p = none := Option.isNone_iff_eq_none.mp q_15
        refine lv_iinc (v := nI (p + 1)) (lv' := [(2, .int (nI (p + 1))), (0, .ref (ad (3))), (1, .ref (ad (b)))]) B.1 B.2.1 dX2_letComeDown_38 hl (k := 0) rfl (nI_1 _) (by decide) rfl (fun ls hl => ?_)
        refine lv_goto (tgt := 2) B.1 B.2.1 dX2_letComeDown_41 (by decide) ?_
        exact ih2 (p + 1) u G (by omega) hLG hHG hu hs (by rw [downTo, ← hu0, down1, q_16]) _ _ ls hC (lv_sub hl [0, 1, 2] rfl)
      · have q_15 : (ti u p).isNone = false := bI_f.mp c_15
        obtain ⟨t, ht0⟩ : ∃ t, ti u p = some t := by cases hh : ti u p <;> simp_all
        have ht10 := hu.t10 (by omega) t ht0
        refine lv_aload_n B.1 B.2.1 dX2_letComeDown_18 rfl (lv_at hl 1 rfl) ?_
        refine lv_iload_n B.1 B.2.1 dX2_letComeDown_19 rfl (lv_at hl 0 rfl) ?_
        refine lv_aload_n B.1 B.2.1 dX2_letComeDown_20 rfl (lv_at hl 2 rfl) ?_
        refine r_calli B hC hl.1 (3) 2 rfl rfl (by decide) g0 (As := [.int (nI p), .ref (ad (b))]) (ctX2_hangsInAir l g lo ad hHG ok hb hLG hu (p := p) (by omega)) gX2_letComeDown_X2_hangsInAir rfl (n := 2) rfl (by decide +kernel) ⟨Nat.le_of_ble_eq_true rfl, Nat.le_of_ble_eq_true rfl⟩ ⟨Nat.zero_le _, Nat.zero_le _⟩ rfl (Nat.le_of_ble_eq_true rfl) dX2_letComeDown_21 (fun r21 F21 H locs hp21 hC => ?_)
        obtain ⟨er, eF⟩ := hp21
        subst er
        rw [eF] at hC
        refine lv_if_eq (tgt := 38) B.1 B.2.1 dX2_letComeDown_24 (by decide) (fun c_24 => ?_) (fun c_24 => ?_)
        · have q_24 : (hangV h u p) = false := bI_f.mp c_24
          refine lv_iinc (v := nI (p + 1)) (lv' := [(2, .int (nI (p + 1))), (0, .ref (ad (3))), (1, .ref (ad (b)))]) B.1 B.2.1 dX2_letComeDown_38 hl (k := 0) rfl (nI_1 _) (by decide) rfl (fun ls hl => ?_)
          refine lv_goto (tgt := 2) B.1 B.2.1 dX2_letComeDown_41 (by decide) ?_
          exact ih2 (p + 1) u G (by omega) hLG hHG hu hs (by rw [downTo, ← hu0, down1, ht0]; simp [q_24]) _ _ ls hC (lv_sub hl [0, 1, 2] rfl)
        · have q_24 : (hangV h u p) = true := bI_t.mp c_24
          refine lv_aload_n B.1 B.2.1 dX2_letComeDown_27 rfl (lv_at hl 2 rfl) ?_
          refine lv_aload_n B.1 B.2.1 dX2_letComeDown_28 rfl (lv_at hl 2 rfl) ?_
          refine lv_iload_n B.1 B.2.1 dX2_letComeDown_29 rfl (lv_at hl 0 rfl) ?_
          refine r_calli B hC hl.1 (b) 3 rfl rfl (by omega) h0 (As := [.int (nI p)]) (ctX3_timberIn l g lo ad hb hLG (t := p) (by omega)) gX2_letComeDown_X3_timberIn rfl (n := 1) rfl (by decide +kernel) ⟨Nat.le_of_ble_eq_true rfl, Nat.le_of_ble_eq_true rfl⟩ ⟨Nat.zero_le _, Nat.zero_le _⟩ rfl (Nat.le_of_ble_eq_true rfl) dX2_letComeDown_30 (fun r30 F21 H locs hp30 hC => ?_)
          obtain ⟨er, eF⟩ := hp30
          subst er
          rw [eF] at hC
          refine r_tI (y := nI t) (by rw [ht0]; rfl) ?_
          refine lv_bipush (v := nI 100) B.1 B.2.1 dX2_letComeDown_33 (by decide) ?_
          refine r_callv B hC hl.1 (b) 3 rfl rfl (by omega) h0 (As := [.int (nI t), .int (nI 100)]) (ctX3_bringTo l g lo ad hb hLG (t := t) (x := 100) ht10 (hu.1 t).1 (by decide)) gX2_letComeDown_X3_bringTo rfl (n := 2) rfl (by decide +kernel) ⟨Nat.le_of_ble_eq_true rfl, Nat.le_of_ble_eq_true rfl⟩ ⟨Nat.zero_le _, Nat.zero_le _⟩ rfl (Nat.le_of_ble_eq_true rfl) dX2_letComeDown_35 (fun F21 H locs hp35 hC => ?_)
          obtain ⟨hL_F21, hs_F21⟩ := hp35
          have hH_F21 := HullC.keep hHG hs_F21 (by omega)
          have hw_F21 : LOK h (bringV u t 100) := LOK_bring ok hu (hu.in_ ok (by omega) ht0) (Or.inr ⟨hu.2.2.2.2.2.2.1 t ht10 (by have := (hu.tn ok (by omega) ht0).2.1; omega), Or.inl rfl⟩)
          obtain ⟨h0_F21, h1_F21, h2_F21, h3_F21, h4_F21⟩ := id hL_F21
          obtain ⟨g0_F21, g1_F21, g2_F21, g3_F21, g4_F21⟩ := id hH_F21
          refine lv_iinc (v := nI (p + 1)) (lv' := [(2, .int (nI (p + 1))), (0, .ref (ad (3))), (1, .ref (ad (b)))]) B.1 B.2.1 dX2_letComeDown_38 hl (k := 0) rfl (nI_1 _) (by decide) rfl (fun ls hl => ?_)
          refine lv_goto (tgt := 2) B.1 B.2.1 dX2_letComeDown_41 (by decide) ?_
          exact ih2 (p + 1) (bringV u t 100) F21 (by omega) hL_F21 hH_F21 hw_F21 (Same.tr2 (Same.wide hs (by omega) (by omega)) hs_F21 (by omega) (by omega)) (by rw [downTo, ← hu0, down1, ht0]; simp [q_24]) _ _ ls hC (lv_sub hl [0, 1, 2] rfl)
  exact loop2 (hn h) 0 w F (by omega) hL hH hw Same.rf rfl _ _ ls hC (lv_sub hl [0, 1, 2] rfl)
theorem iwX2_letWormsEat_X2 : ∀ w ∈ u_ws RX2 TX2 7, w ∈ wsX2_letWormsEat := by decide +kernel
theorem flX2_letWormsEat_24 : Cond.fieldLink RX2 24 RX2 (TX2 4).2.1 (TX2 4).2.2.1 ∈ wsX2_letWormsEat := by decide +kernel
set_option maxHeartbeats 4000000 in
set_option maxRecDepth 100000 in
theorem ctX2_letWormsEat (l : Launch) (g : Gx) (lo : Nat) (ad : Nat → Nat) {F : Nat → va_E} {h : HV} (hH : HullC g ad F h) (ok : HOK h) {b : Nat} {w : LV} (hb : 8 ≤ b ∧ b + 5 ≤ 196) (hL : LoadC g ad F b w) (hw : LOK h w) : MV l g lo 196 ad yX2_letWormsEat wsX2_letWormsEat 1 23 [.ref (ad (3)), .ref (ad (b))] F (fun F' => LoadC g ad F' b (wormTo w (hn h)) ∧ Same b (b + 5) F F') := by
  obtain ⟨g0, g1, g2, g3, g4⟩ := id hH
  have okn := ok.1
  have okp := ok.2.1
  have okh := ok.2.2.1
  obtain ⟨h0, h1, h2, h3, h4⟩ := id hL
  refine enter (cc := cX2_letWormsEat) (maxL := 4) (ret := none) (own := RX2) (by decide +kernel) rfl rfl (Nat.le_of_ble_eq_true rfl) ?_
  intro pp ee ss mm below meth cc B hini hC ls hl
  have hl : lv_has ls 4 [(0, .ref (ad (3))), (1, .ref (ad (b)))] := hl
  refine lv_iconst (v := nI 0) B.1 B.2.1 dX2_letWormsEat_0 (by decide) ?_
  refine lv_istore_n (lv' := [(2, .int (nI 0)), (0, .ref (ad (3))), (1, .ref (ad (b)))]) B.1 B.2.1 dX2_letWormsEat_1 rfl hl (by decide) rfl (fun ls hl => ?_)
  have loop2 : ∀ (k : Nat) (p : Nat) (u : LV) (G : Nat → va_E), (p + k = hn h) → (LoadC g ad G b u) → (HullC g ad G h) → (LOK h u) → (Same b (b + 5) F G) → (u = wormTo w p) → ∀ (H : Heap) (locs : List Loc) (ls : Array Slot), Cu g lo 196 ad G ss ss.heap H locs → lv_has ls 4 [(2, .int (nI p)), (0, .ref (ad (3))), (1, .ref (ad (b)))] → W pp l ee { frames := 1, cells := 0, slots := 0, locals := 23 } ss mm ([.ref (ad (3)), .ref (ad (b))] : List Value).toArray below meth cc H locs 0 0 (MQ below (va_Qv (fun F' => LoadC g ad F' b (wormTo w (hn h)) ∧ Same b (b + 5) F F') (fun F' t => Wd g lo 196 ad F' t) (fun q => lo ≤ q)) ([.ref (ad (3)), .ref (ad (b))] : List Value).toArray ss 0 0 (fun q => lo ≤ q)) (F0 mm 2 ls []) := by
    intro k
    induction k with
    | zero =>
      intro p u G hpk hLG hHG hu hs hu0 H locs ls hC hl
      obtain ⟨g0, g1, g2, g3, g4⟩ := id hHG
      obtain ⟨h0, h1, h2, h3, h4⟩ := id hLG
      refine lv_iload_n B.1 B.2.1 dX2_letWormsEat_2 rfl (lv_at hl 0 rfl) ?_
      refine lv_aload_n B.1 B.2.1 dX2_letWormsEat_3 rfl (lv_at hl 1 rfl) ?_
      refine r_cg B hC (i := 3) (by decide) g0 (C := RX2) (T := TX2) (n := 7) rfl iwX2_letWormsEat_X2 4 (by decide) (index := 24) flX2_letWormsEat_24 rfl (v := .int (nI (hn h))) rfl dX2_letWormsEat_4 ?_
      refine lv_icmp_ge (tgt := 53) B.1 B.2.1 dX2_letWormsEat_7 (by decide) (fun _ => ?_) (fun z => absurd (nI_le (by omega) (by omega)) z)
      exact r_eV B hC (⟨by rw [show hn h = p by omega, ← hu0]; exact hLG, hs⟩) dX2_letWormsEat_53
    | succ k ih2 =>
      intro p u G hpk hLG hHG hu hs hu0 H locs ls hC hl
      obtain ⟨g0, g1, g2, g3, g4⟩ := id hHG
      obtain ⟨h0, h1, h2, h3, h4⟩ := id hLG
      refine lv_iload_n B.1 B.2.1 dX2_letWormsEat_2 rfl (lv_at hl 0 rfl) ?_
      refine lv_aload_n B.1 B.2.1 dX2_letWormsEat_3 rfl (lv_at hl 1 rfl) ?_
      refine r_cg B hC (i := 3) (by decide) g0 (C := RX2) (T := TX2) (n := 7) rfl iwX2_letWormsEat_X2 4 (by decide) (index := 24) flX2_letWormsEat_24 rfl (v := .int (nI (hn h))) rfl dX2_letWormsEat_4 ?_
      refine lv_icmp_ge (tgt := 53) B.1 B.2.1 dX2_letWormsEat_7 (by decide) (fun z => absurd z (nI_ge (by omega) (by omega))) (fun _ => ?_)
      refine lv_aload_n B.1 B.2.1 dX2_letWormsEat_10 rfl (lv_at hl 2 rfl) ?_
      refine lv_iload_n B.1 B.2.1 dX2_letWormsEat_11 rfl (lv_at hl 0 rfl) ?_
      refine r_calli B hC hl.1 (b) 3 rfl rfl (by omega) h0 (As := [.int (nI p)]) (ctX3_timberIn l g lo ad hb hLG (t := p) (by omega)) gX2_letWormsEat_X3_timberIn rfl (n := 1) rfl (by decide +kernel) ⟨Nat.le_of_ble_eq_true rfl, Nat.le_of_ble_eq_true rfl⟩ ⟨Nat.zero_le _, Nat.zero_le _⟩ rfl (Nat.le_of_ble_eq_true rfl) dX2_letWormsEat_12 (fun r12 F21 H locs hp12 hC => ?_)
      obtain ⟨er, eF⟩ := hp12
      subst er
      rw [eF] at hC
      rcases ht0 : ti u p with _ | t
      · refine r_tI (y := (-9)) rfl ?_
        refine lv_istore_n (lv' := [(3, .int ((-9))), (2, .int (nI p)), (0, .ref (ad (3))), (1, .ref (ad (b)))]) B.1 B.2.1 dX2_letWormsEat_15 rfl hl (by decide) rfl (fun ls hl => ?_)
        refine lv_aload_n B.1 B.2.1 dX2_letWormsEat_16 rfl (lv_at hl 3 rfl) ?_
        refine lv_iload_n B.1 B.2.1 dX2_letWormsEat_17 rfl (lv_at hl 0 rfl) ?_
        refine r_calli B hC hl.1 (b) 3 rfl rfl (by omega) h0 (As := [.int ((-9))]) (ctX3_wormsIn_none l g lo ad hb hLG) gX2_letWormsEat_X3_wormsIn rfl (n := 1) rfl (by decide +kernel) ⟨Nat.le_of_ble_eq_true rfl, Nat.le_of_ble_eq_true rfl⟩ ⟨Nat.zero_le _, Nat.zero_le _⟩ rfl (Nat.le_of_ble_eq_true rfl) dX2_letWormsEat_18 (fun r18 F21 H locs hp18 hC => ?_)
        obtain ⟨er, eF⟩ := hp18
        subst er
        rw [eF] at hC
        refine lv_if_le (tgt := 47) B.1 B.2.1 dX2_letWormsEat_21 (by decide) (fun _ => ?_) (fun z => absurd (nI_le0 (by omega)) z)
        refine lv_iinc (v := nI (p + 1)) (lv' := [(2, .int (nI (p + 1))), (3, .int ((-9))), (0, .ref (ad (3))), (1, .ref (ad (b)))]) B.1 B.2.1 dX2_letWormsEat_47 hl (k := 1) rfl (nI_1 _) (by decide) rfl (fun ls hl => ?_)
        refine lv_goto (tgt := 2) B.1 B.2.1 dX2_letWormsEat_50 (by decide) ?_
        exact ih2 (p + 1) u G (by omega) hLG hHG hu hs (by rw [wormTo, ← hu0, worm1, ht0]) _ _ ls hC (lv_sub hl [0, 2, 3] rfl)
      · have ht10 := hu.t10 (by omega) t ht0
        have hwo := (hu.1 t).2.2
        have hw1 := worm_wo u t
        refine r_tI (y := nI t) rfl ?_
        refine lv_istore_n (lv' := [(3, .int (nI t)), (2, .int (nI p)), (0, .ref (ad (3))), (1, .ref (ad (b)))]) B.1 B.2.1 dX2_letWormsEat_15 rfl hl (by decide) rfl (fun ls hl => ?_)
        refine lv_aload_n B.1 B.2.1 dX2_letWormsEat_16 rfl (lv_at hl 3 rfl) ?_
        refine lv_iload_n B.1 B.2.1 dX2_letWormsEat_17 rfl (lv_at hl 0 rfl) ?_
        refine r_calli B hC hl.1 (b) 3 rfl rfl (by omega) h0 (As := [.int (nI t)]) (ctX3_wormsIn_some l g lo ad hb hLG (t := t) ht10) gX2_letWormsEat_X3_wormsIn rfl (n := 1) rfl (by decide +kernel) ⟨Nat.le_of_ble_eq_true rfl, Nat.le_of_ble_eq_true rfl⟩ ⟨Nat.zero_le _, Nat.zero_le _⟩ rfl (Nat.le_of_ble_eq_true rfl) dX2_letWormsEat_18 (fun r18 F21 H locs hp18 hC => ?_)
        obtain ⟨er, eF⟩ := hp18
        subst er
        rw [eF] at hC
        refine lv_if_le (tgt := 47) B.1 B.2.1 dX2_letWormsEat_21 (by decide) (fun c_21 => ?_) (fun c_21 => ?_)
        · have q_21 : wo u t = 0 := by have := (hu.1 t).2.2; exact Nat.not_lt.mp (fun z => absurd c_21 (nI_nle z (by omega))) |> Nat.le_zero.mp
          refine lv_iinc (v := nI (p + 1)) (lv' := [(2, .int (nI (p + 1))), (3, .int (nI t)), (0, .ref (ad (3))), (1, .ref (ad (b)))]) B.1 B.2.1 dX2_letWormsEat_47 hl (k := 1) rfl (nI_1 _) (by decide) rfl (fun ls hl => ?_)
          refine lv_goto (tgt := 2) B.1 B.2.1 dX2_letWormsEat_50 (by decide) ?_
          exact ih2 (p + 1) u G (by omega) hLG hHG hu hs (by rw [wormTo, ← hu0, worm1, ht0]; simp [q_21]) _ _ ls hC (lv_sub hl [0, 2, 3] rfl)
        · have q_21 : 0 < wo u t := Nat.pos_of_ne_zero (fun z => c_21 (nI_le0 z))
          refine lv_aload_n B.1 B.2.1 dX2_letWormsEat_24 rfl (lv_at hl 3 rfl) ?_
          refine lv_iload_n B.1 B.2.1 dX2_letWormsEat_25 rfl (lv_at hl 0 rfl) ?_
          refine r_callv B hC hl.1 (b) 3 rfl rfl (by omega) h0 (As := [.int (nI t)]) (ctX3_addWorm l g lo ad hb hLG (t := t) ht10) gX2_letWormsEat_X3_addWorm rfl (n := 1) rfl (by decide +kernel) ⟨Nat.le_of_ble_eq_true rfl, Nat.le_of_ble_eq_true rfl⟩ ⟨Nat.zero_le _, Nat.zero_le _⟩ rfl (Nat.le_of_ble_eq_true rfl) dX2_letWormsEat_26 (fun F21 H locs hp26 hC => ?_)
          obtain ⟨hL_F21, hs_F21⟩ := hp26
          have hH_F21 := HullC.keep hHG hs_F21 (by omega)
          obtain ⟨h0_F21, h1_F21, h2_F21, h3_F21, h4_F21⟩ := id hL_F21
          obtain ⟨g0_F21, g1_F21, g2_F21, g3_F21, g4_F21⟩ := id hH_F21
          refine lv_aload_n B.1 B.2.1 dX2_letWormsEat_29 rfl (lv_at hl 3 rfl) ?_
          refine lv_iload_n B.1 B.2.1 dX2_letWormsEat_30 rfl (lv_at hl 0 rfl) ?_
          refine r_calli B hC hl.1 (b) 3 rfl rfl (by omega) h0_F21 (As := [.int (nI t)]) (ctX3_wormsIn_some l g lo ad hb hL_F21 (t := t) ht10) gX2_letWormsEat_X3_wormsIn rfl (n := 1) rfl (by decide +kernel) ⟨Nat.le_of_ble_eq_true rfl, Nat.le_of_ble_eq_true rfl⟩ ⟨Nat.zero_le _, Nat.zero_le _⟩ rfl (Nat.le_of_ble_eq_true rfl) dX2_letWormsEat_31 (fun r31 F22 H locs hp31 hC => ?_)
          obtain ⟨er, eF⟩ := hp31
          subst er
          rw [eF] at hC
          refine lv_bipush (v := nI 10) B.1 B.2.1 dX2_letWormsEat_34 (by decide) ?_
          refine lv_icmp_lt (tgt := 47) B.1 B.2.1 dX2_letWormsEat_36 (by decide) (fun c_36 => ?_) (fun c_36 => ?_)
          · have q_36 : (wo (wormV u t) t) < 10 := (nI_ltI (by omega) (by omega)).mp c_36
            refine lv_iinc (v := nI (p + 1)) (lv' := [(2, .int (nI (p + 1))), (3, .int (nI t)), (0, .ref (ad (3))), (1, .ref (ad (b)))]) B.1 B.2.1 dX2_letWormsEat_47 hl (k := 1) rfl (nI_1 _) (by decide) rfl (fun ls hl => ?_)
            refine lv_goto (tgt := 2) B.1 B.2.1 dX2_letWormsEat_50 (by decide) ?_
            exact ih2 (p + 1) (wormV u t) F21 (by omega) hL_F21 hH_F21 (LOK_worm hu ht10 (by rw [worm_wo] at q_36; omega)) (Same.tr2 (Same.wide hs (by omega) (by omega)) hs_F21 (by omega) (by omega)) (by rw [wormTo, ← hu0, worm1, ht0]; simp only [if_pos q_21]; rw [if_neg (by omega)]) _ _ ls hC (lv_sub hl [0, 2, 3] rfl)
          · have q_36 : ¬ (wo (wormV u t) t) < 10 := fun z => c_36 ((nI_ltI (by omega) (by omega)).mpr z)
            refine lv_aload_n B.1 B.2.1 dX2_letWormsEat_39 rfl (lv_at hl 3 rfl) ?_
            refine lv_iload_n B.1 B.2.1 dX2_letWormsEat_40 rfl (lv_at hl 0 rfl) ?_
            refine lv_sipush (v := nI 200) B.1 B.2.1 dX2_letWormsEat_41 (by decide) ?_
            refine r_callv B hC hl.1 (b) 3 rfl rfl (by omega) h0_F21 (As := [.int (nI t), .int (nI 200)]) (ctX3_bringTo l g lo ad hb hL_F21 (t := t) (x := 200) ht10 (hu.1 t).1 (by decide)) gX2_letWormsEat_X3_bringTo rfl (n := 2) rfl (by decide +kernel) ⟨Nat.le_of_ble_eq_true rfl, Nat.le_of_ble_eq_true rfl⟩ ⟨Nat.zero_le _, Nat.zero_le _⟩ rfl (Nat.le_of_ble_eq_true rfl) dX2_letWormsEat_44 (fun F22 H locs hp44 hC => ?_)
            obtain ⟨hL_F22, hs_F22⟩ := hp44
            have hH_F22 := HullC.keep hH_F21 hs_F22 (by omega)
            have hw_F22 : LOK h (bringV (wormV u t) t 200) := LOK_worm10 ok hu (hu.in_ ok (by omega) ht0) (hu.2.2.2.2.2.2.1 t ht10 (by have := (hu.tn ok (by omega) ht0).2.1; omega))
            obtain ⟨h0_F22, h1_F22, h2_F22, h3_F22, h4_F22⟩ := id hL_F22
            obtain ⟨g0_F22, g1_F22, g2_F22, g3_F22, g4_F22⟩ := id hH_F22
            refine lv_iinc (v := nI (p + 1)) (lv' := [(2, .int (nI (p + 1))), (3, .int (nI t)), (0, .ref (ad (3))), (1, .ref (ad (b)))]) B.1 B.2.1 dX2_letWormsEat_47 hl (k := 1) rfl (nI_1 _) (by decide) rfl (fun ls hl => ?_)
            refine lv_goto (tgt := 2) B.1 B.2.1 dX2_letWormsEat_50 (by decide) ?_
            exact ih2 (p + 1) (bringV (wormV u t) t 200) F22 (by omega) hL_F22 hH_F22 hw_F22 (Same.tr2 (Same.tr2 (Same.wide hs (by omega) (by omega)) hs_F21 (by omega) (by omega)) hs_F22 (by omega) (by omega)) (by rw [wormTo, ← hu0, worm1, ht0]; simp only [if_pos q_21]; rw [if_pos (by omega)]) _ _ ls hC (lv_sub hl [0, 2, 3] rfl)
  exact loop2 (hn h) 0 w F (by omega) hL hH hw Same.rf rfl _ _ ls hC (lv_sub hl [0, 1, 2] rfl)
theorem iwX2_passWatch_X2 : ∀ w ∈ u_ws RX2 TX2 7, w ∈ wsX2_passWatch := by decide +kernel
theorem flX2_passWatch_28 : Cond.fieldLink RX2 28 RX2 (TX2 5).2.1 (TX2 5).2.2.1 ∈ wsX2_passWatch := by decide +kernel
theorem flX2_passWatch_31 : Cond.fieldLink RX2 31 RX2 (TX2 6).2.1 (TX2 6).2.2.1 ∈ wsX2_passWatch := by decide +kernel
theorem mwX2_passWatch_95_0 : Cond.methodLink RX2 95 Lib.Math.max.name ∈ wsX2_passWatch := by decide +kernel
theorem mwX2_passWatch_95_1 : Cond.static Lib.Math.max.name ∈ wsX2_passWatch := by decide +kernel
theorem mwX2_passWatch_95_2 : Cond.initialized "java/lang/Math" ∈ wsX2_passWatch := by decide +kernel
theorem mwX2_passWatch_95_3 : Cond.code Lib.Math.max.name Lib.Math.max.code 2 (some .int) ∈ wsX2_passWatch := by decide +kernel
set_option maxHeartbeats 4000000 in
set_option maxRecDepth 100000 in
theorem ctX2_passWatch (l : Launch) (g : Gx) (lo : Nat) (ad : Nat → Nat) {F : Nat → va_E} {h : HV} (hH : HullC g ad F h) (ok : HOK h) {b : Nat} {w : LV} (hb : 8 ≤ b ∧ b + 5 ≤ 196) (hL : LoadC g ad F b w) (hw : LOK h w) (hsu : su w = false) : MV l g lo 196 ad yX2_passWatch wsX2_passWatch 3 65 [.ref (ad (3)), .ref (ad (b))] F (fun F' => LoadC g ad F' b (watchV h w) ∧ Same b (b + 5) F F') := by
  obtain ⟨g0, g1, g2, g3, g4⟩ := id hH
  have okn := ok.1
  have okp := ok.2.1
  have okh := ok.2.2.1
  obtain ⟨h0, h1, h2, h3, h4⟩ := id hL
  have hx300 := waterN_le ok hw hsu
  have hlk := leakV_le (w := w) ok
  have hwa := hw.2.1
  refine enter (cc := cX2_passWatch) (maxL := 2) (ret := none) (own := RX2) (by decide +kernel) rfl rfl (Nat.le_of_ble_eq_true rfl) ?_
  intro pp ee ss mm below meth cc B hini hC ls hl
  have hl : lv_has ls 2 [(0, .ref (ad (3))), (1, .ref (ad (b)))] := hl
  refine lv_aload_n B.1 B.2.1 dX2_passWatch_0 rfl (lv_at hl 1 rfl) ?_
  refine lv_iconst (v := nI 0) B.1 B.2.1 dX2_passWatch_1 (by decide) ?_
  refine lv_aload_n B.1 B.2.1 dX2_passWatch_2 rfl (lv_at hl 1 rfl) ?_
  refine r_calli B hC hl.1 (b) 3 rfl rfl (by omega) h0 (As := []) (ctX3_waterInside l g lo ad hb hL) gX2_passWatch_X3_waterInside rfl (n := 0) rfl (by decide +kernel) ⟨Nat.le_of_ble_eq_true rfl, Nat.le_of_ble_eq_true rfl⟩ ⟨Nat.zero_le _, Nat.zero_le _⟩ rfl (Nat.le_of_ble_eq_true rfl) dX2_passWatch_3 (fun r3 F1 H locs hp3 hC => ?_)
  obtain ⟨er, eF⟩ := hp3
  subst er
  rw [eF] at hC
  refine lv_aload_n B.1 B.2.1 dX2_passWatch_6 rfl (lv_at hl 0 rfl) ?_
  refine lv_aload_n B.1 B.2.1 dX2_passWatch_7 rfl (lv_at hl 1 rfl) ?_
  refine r_calli B hC hl.1 (3) 2 rfl rfl (by decide) g0 (As := [.ref (ad (b))]) (ctX2_leakOf l g lo ad hH ok hb hL hw) gX2_passWatch_X2_leakOf rfl (n := 1) rfl (by decide +kernel) ⟨Nat.le_of_ble_eq_true rfl, Nat.le_of_ble_eq_true rfl⟩ ⟨Nat.zero_le _, Nat.zero_le _⟩ rfl (Nat.le_of_ble_eq_true rfl) dX2_passWatch_8 (fun r8 F1 H locs hp8 hC => ?_)
  obtain ⟨er, eF⟩ := hp8
  subst er
  rw [eF] at hC
  refine lv_iadd B.1 B.2.1 dX2_passWatch_11 ?_
  refine r_tI (y := nI ((wa w) + (leakV h w))) (nI_add _ _) ?_
  refine lv_aload_n B.1 B.2.1 dX2_passWatch_12 rfl (lv_at hl 0 rfl) ?_
  refine r_cg B hC (i := 3) (by decide) g0 (C := RX2) (T := TX2) (n := 7) rfl iwX2_passWatch_X2 5 (by decide) (index := 28) flX2_passWatch_28 rfl (v := .int (nI (hpu h))) rfl dX2_passWatch_13 ?_
  refine lv_isub B.1 B.2.1 dX2_passWatch_16 ?_
  refine r_tI (y := nI (wa w + leakV h w) - nI (hpu h)) (rfl) ?_
  refine r_max B hl.1 mwX2_passWatch_95_0 mwX2_passWatch_95_1 mwX2_passWatch_95_2 mwX2_passWatch_95_3 (Nat.le_of_ble_eq_true rfl) (Nat.le_of_ble_eq_true rfl) (Nat.zero_le _) (Nat.zero_le _) dX2_passWatch_17 ?_
  refine r_tI (y := nI (waterN h w)) (max_sub (by omega) (by omega)) ?_
  refine r_callv B hC hl.1 (b) 3 rfl rfl (by omega) h0 (As := [.int (nI (waterN h w))]) (ctX3_setWater l g lo ad hb hL (x := waterN h w)) gX2_passWatch_X3_setWater rfl (n := 1) rfl (by decide +kernel) ⟨Nat.le_of_ble_eq_true rfl, Nat.le_of_ble_eq_true rfl⟩ ⟨Nat.zero_le _, Nat.zero_le _⟩ rfl (Nat.le_of_ble_eq_true rfl) dX2_passWatch_20 (fun F1 H locs hp20 hC => ?_)
  obtain ⟨hL_F1, hs_F1⟩ := hp20
  have hH_F1 := HullC.keep hH hs_F1 (by omega)
  obtain ⟨h0_F1, h1_F1, h2_F1, h3_F1, h4_F1⟩ := id hL_F1
  obtain ⟨g0_F1, g1_F1, g2_F1, g3_F1, g4_F1⟩ := id hH_F1
  refine lv_aload_n B.1 B.2.1 dX2_passWatch_23 rfl (lv_at hl 1 rfl) ?_
  refine r_calli B hC hl.1 (b) 3 rfl rfl (by omega) h0_F1 (As := []) (ctX3_waterInside l g lo ad hb hL_F1) gX2_passWatch_X3_waterInside rfl (n := 0) rfl (by decide +kernel) ⟨Nat.le_of_ble_eq_true rfl, Nat.le_of_ble_eq_true rfl⟩ ⟨Nat.zero_le _, Nat.zero_le _⟩ rfl (Nat.le_of_ble_eq_true rfl) dX2_passWatch_24 (fun r24 F2 H locs hp24 hC => ?_)
  obtain ⟨er, eF⟩ := hp24
  subst er
  rw [eF] at hC
  refine r_tI (y := nI (waterN h w)) (rfl) ?_
  refine lv_aload_n B.1 B.2.1 dX2_passWatch_27 rfl (lv_at hl 0 rfl) ?_
  refine r_cg B hC (i := 3) (by decide) g0_F1 (C := RX2) (T := TX2) (n := 7) rfl iwX2_passWatch_X2 6 (by decide) (index := 31) flX2_passWatch_31 rfl (v := .int (nI (hho h))) rfl dX2_passWatch_28 ?_
  refine lv_icmp_le (tgt := 39) B.1 B.2.1 dX2_passWatch_31 (by decide) (fun c_31 => ?_) (fun c_31 => ?_)
  · have q_31 : (waterN h w) ≤ (hho h) := (nI_leI (by omega) (by omega)).mp c_31
    refine lv_aload_n B.1 B.2.1 dX2_passWatch_39 rfl (lv_at hl 0 rfl) ?_
    refine lv_aload_n B.1 B.2.1 dX2_passWatch_40 rfl (lv_at hl 1 rfl) ?_
    have hw_F1 : LOK h (waterV w (waterN h w)) := LOK_water hw hx300 (fun _ => by omega)
    refine r_callv B hC hl.1 (3) 2 rfl rfl (by decide) g0_F1 (As := [.ref (ad (b))]) (ctX2_letWormsEat l g lo ad hH_F1 ok hb hL_F1 hw_F1) gX2_passWatch_X2_letWormsEat rfl (n := 1) rfl (by decide +kernel) ⟨Nat.le_of_ble_eq_true rfl, Nat.le_of_ble_eq_true rfl⟩ ⟨Nat.zero_le _, Nat.zero_le _⟩ rfl (Nat.le_of_ble_eq_true rfl) dX2_passWatch_41 (fun F2 H locs hp41 hC => ?_)
    obtain ⟨hL_F2, hs_F2⟩ := hp41
    have hH_F2 := HullC.keep hH_F1 hs_F2 (by omega)
    have hw_F2 : LOK h (wormTo (waterV w (waterN h w)) (hn h)) := LOK_wormTo ok hw_F1 ok.1
    obtain ⟨h0_F2, h1_F2, h2_F2, h3_F2, h4_F2⟩ := id hL_F2
    obtain ⟨g0_F2, g1_F2, g2_F2, g3_F2, g4_F2⟩ := id hH_F2
    refine lv_aload_n B.1 B.2.1 dX2_passWatch_44 rfl (lv_at hl 0 rfl) ?_
    refine lv_aload_n B.1 B.2.1 dX2_passWatch_45 rfl (lv_at hl 1 rfl) ?_
    refine r_callv B hC hl.1 (3) 2 rfl rfl (by decide) g0_F2 (As := [.ref (ad (b))]) (ctX2_letComeDown l g lo ad hH_F2 ok hb hL_F2 hw_F2) gX2_passWatch_X2_letComeDown rfl (n := 1) rfl (by decide +kernel) ⟨Nat.le_of_ble_eq_true rfl, Nat.le_of_ble_eq_true rfl⟩ ⟨Nat.zero_le _, Nat.zero_le _⟩ rfl (Nat.le_of_ble_eq_true rfl) dX2_passWatch_46 (fun F3 H locs hp46 hC => ?_)
    obtain ⟨hL_F3, hs_F3⟩ := hp46
    have hH_F3 := HullC.keep hH_F2 hs_F3 (by omega)
    obtain ⟨h0_F3, h1_F3, h2_F3, h3_F3, h4_F3⟩ := id hL_F3
    obtain ⟨g0_F3, g1_F3, g2_F3, g3_F3, g4_F3⟩ := id hH_F3
    exact r_eV B hC (⟨by rw [watchV, if_neg (by omega)]; exact hL_F3, (Same.tr2 (Same.tr2 (Same.wide hs_F1 (by omega) (by omega)) hs_F2 (by omega) (by omega)) hs_F3 (by omega) (by omega))⟩) dX2_passWatch_49
  · have q_31 : ¬ (waterN h w) ≤ (hho h) := fun z => c_31 ((nI_leI (by omega) (by omega)).mpr z)
    refine lv_aload_n B.1 B.2.1 dX2_passWatch_34 rfl (lv_at hl 1 rfl) ?_
    refine r_callv B hC hl.1 (b) 3 rfl rfl (by omega) h0_F1 (As := []) (ctX3_sink l g lo ad hb hL_F1) gX2_passWatch_X3_sink rfl (n := 0) rfl (by decide +kernel) ⟨Nat.le_of_ble_eq_true rfl, Nat.le_of_ble_eq_true rfl⟩ ⟨Nat.zero_le _, Nat.zero_le _⟩ rfl (Nat.le_of_ble_eq_true rfl) dX2_passWatch_35 (fun F2 H locs hp35 hC => ?_)
    obtain ⟨hL_F2, hs_F2⟩ := hp35
    have hH_F2 := HullC.keep hH_F1 hs_F2 (by omega)
    obtain ⟨h0_F2, h1_F2, h2_F2, h3_F2, h4_F2⟩ := id hL_F2
    obtain ⟨g0_F2, g1_F2, g2_F2, g3_F2, g4_F2⟩ := id hH_F2
    exact r_eV B hC (⟨by rw [watchV, if_pos (by omega)]; exact hL_F2, (Same.tr2 (Same.wide hs_F1 (by omega) (by omega)) hs_F2 (by omega) (by omega))⟩) dX2_passWatch_38
end
section
/-! HULL: how long she floats -/
/-- no WATCH changes anything at p but water -/
def rest1 (h : HV) (w : LV) (p : Nat) : Bool := match ti w p with
  | none => true
  | some t => !decide (0 < wo w t) && !hangV h w p
def restTo (h : HV) (w : LV) : Nat → Bool
  | 0 => true
  | p + 1 => restTo h w p && rest1 h w p
theorem restTo_f {h : HV} {w : LV} {k : Nat} (q : restTo h w k = false) : ∀ d, restTo h w (k + d) = false
  | 0 => q
  | d + 1 => by
    show (restTo h w (k + d) && _) = false
    rw [restTo_f q d]; rfl
def restN (h : HV) (w : LV) : Nat := if hpu h < leakV h w then (hho h - wa w) / (leakV h w - hpu h) else 99
theorem restN_le {h : HV} {w : LV} (ok : HOK h) : restN h w ≤ 99 := by
  unfold restN
  split
  · exact Nat.le_trans (Nat.div_le_self _ _) (by have := ok.2.2.1; omega)
  · exact Nat.le_refl _
def floatG (h : HV) : Nat → Nat → LV → Nat
  | 0, _, _ => 99
  | k + 1, s, w => if restTo h w (hn h) = true then min 99 (s + restN h w) else if su (watchV h w) = true then s else floatG h k (s + 1) (watchV h w)
def floatsV (h : HV) (w : LV) : Nat := if su w = true then 0 else floatG h 99 0 w
theorem nI_sub_le0 {a b : Nat} (ha : a < 2 ^ 30) (hb : b < 2 ^ 30) : nI a - nI b ≤ 0 ↔ a ≤ b := by
  rw [Int32.le_iff_toInt_le, pk_sub_toInt ha hb, Int32.toInt_zero]; omega
theorem min_nI {a b : Nat} (ha : a < 2 ^ 30) (hb : b < 2 ^ 30) : (if nI b < nI a then nI b else nI a) = nI (min a b) := by
  by_cases h : b < a
  · rw [if_pos (nI_lt h (by omega)), Nat.min_eq_right (by omega)]
  · rw [if_neg (nI_nlt (by omega) (by omega)), Nat.min_eq_left (by omega)]
theorem iwX2_isAtRest_X2 : ∀ w ∈ u_ws RX2 TX2 7, w ∈ wsX2_isAtRest := by decide +kernel
theorem flX2_isAtRest_24 : Cond.fieldLink RX2 24 RX2 (TX2 4).2.1 (TX2 4).2.2.1 ∈ wsX2_isAtRest := by decide +kernel
set_option maxHeartbeats 4000000 in
set_option maxRecDepth 100000 in
theorem ctX2_isAtRest (l : Launch) (g : Gx) (lo : Nat) (ad : Nat → Nat) {F : Nat → va_E} {h : HV} (hH : HullC g ad F h) (ok : HOK h) {b : Nat} {w : LV} (hb : 8 ≤ b ∧ b + 5 ≤ 196) (hL : LoadC g ad F b w) (hw : LOK h w) : MI l g lo 196 ad yX2_isAtRest wsX2_isAtRest 2 43 [.ref (ad (3)), .ref (ad (b))] F (fun r F' => r = bI (restTo h w (hn h)) ∧ F' = F) := by
  obtain ⟨g0, g1, g2, g3, g4⟩ := id hH
  have okn := ok.1
  have okp := ok.2.1
  have okh := ok.2.2.1
  obtain ⟨h0, h1, h2, h3, h4⟩ := id hL
  refine enter (cc := cX2_isAtRest) (maxL := 3) (ret := some .boolean) (own := RX2) (by decide +kernel) rfl rfl (Nat.le_of_ble_eq_true rfl) ?_
  intro pp ee ss mm below meth cc B hini hC ls hl
  have hl : lv_has ls 3 [(0, .ref (ad (3))), (1, .ref (ad (b)))] := hl
  refine lv_iconst (v := nI 0) B.1 B.2.1 dX2_isAtRest_0 (by decide) ?_
  refine lv_istore_n (lv' := [(2, .int (nI 0)), (0, .ref (ad (3))), (1, .ref (ad (b)))]) B.1 B.2.1 dX2_isAtRest_1 rfl hl (by decide) rfl (fun ls hl => ?_)
  have loop2 : ∀ (k : Nat) (p : Nat), (p + k = hn h) → (restTo h w p = true) → ∀ (H : Heap) (locs : List Loc) (ls : Array Slot), Cu g lo 196 ad F ss ss.heap H locs → lv_has ls 3 [(2, .int (nI p)), (0, .ref (ad (3))), (1, .ref (ad (b)))] → W pp l ee { frames := 2, cells := 0, slots := 0, locals := 43 } ss mm ([.ref (ad (3)), .ref (ad (b))] : List Value).toArray below meth cc H locs 0 0 (MQ below (va_Qi (fun r F' => r = bI (restTo h w (hn h)) ∧ F' = F) (fun F' t => Wd g lo 196 ad F' t) (fun q => lo ≤ q)) ([.ref (ad (3)), .ref (ad (b))] : List Value).toArray ss 0 0 (fun q => lo ≤ q)) (F0 mm 2 ls []) := by
    intro k
    induction k with
    | zero =>
      intro p hpk hr H locs ls hC hl
      refine lv_iload_n B.1 B.2.1 dX2_isAtRest_2 rfl (lv_at hl 0 rfl) ?_
      refine lv_aload_n B.1 B.2.1 dX2_isAtRest_3 rfl (lv_at hl 1 rfl) ?_
      refine r_cg B hC (i := 3) (by decide) g0 (C := RX2) (T := TX2) (n := 7) rfl iwX2_isAtRest_X2 4 (by decide) (index := 24) flX2_isAtRest_24 rfl (v := .int (nI (hn h))) rfl dX2_isAtRest_4 ?_
      refine lv_icmp_ge (tgt := 47) B.1 B.2.1 dX2_isAtRest_7 (by decide) (fun _ => ?_) (fun z => absurd (nI_le (by omega) (by omega)) z)
      refine lv_iconst (v := nI 1) B.1 B.2.1 dX2_isAtRest_47 (by decide) ?_
      exact r_eZ B hC (v := nI 1) (rfl) (⟨by rw [show hn h = p by omega, hr]; rfl, rfl⟩) dX2_isAtRest_48
    | succ k ih2 =>
      intro p hpk hr H locs ls hC hl
      refine lv_iload_n B.1 B.2.1 dX2_isAtRest_2 rfl (lv_at hl 0 rfl) ?_
      refine lv_aload_n B.1 B.2.1 dX2_isAtRest_3 rfl (lv_at hl 1 rfl) ?_
      refine r_cg B hC (i := 3) (by decide) g0 (C := RX2) (T := TX2) (n := 7) rfl iwX2_isAtRest_X2 4 (by decide) (index := 24) flX2_isAtRest_24 rfl (v := .int (nI (hn h))) rfl dX2_isAtRest_4 ?_
      refine lv_icmp_ge (tgt := 47) B.1 B.2.1 dX2_isAtRest_7 (by decide) (fun z => absurd z (nI_ge (by omega) (by omega))) (fun _ => ?_)
      refine lv_aload_n B.1 B.2.1 dX2_isAtRest_10 rfl (lv_at hl 2 rfl) ?_
      refine lv_aload_n B.1 B.2.1 dX2_isAtRest_11 rfl (lv_at hl 2 rfl) ?_
      refine lv_iload_n B.1 B.2.1 dX2_isAtRest_12 rfl (lv_at hl 0 rfl) ?_
      refine r_calli B hC hl.1 (b) 3 rfl rfl (by omega) h0 (As := [.int (nI p)]) (ctX3_timberIn l g lo ad hb hL (t := p) (by omega)) gX2_isAtRest_X3_timberIn rfl (n := 1) rfl (by decide +kernel) ⟨Nat.le_of_ble_eq_true rfl, Nat.le_of_ble_eq_true rfl⟩ ⟨Nat.zero_le _, Nat.zero_le _⟩ rfl (Nat.le_of_ble_eq_true rfl) dX2_isAtRest_13 (fun r13 F1 H locs hp13 hC => ?_)
      obtain ⟨er, eF⟩ := hp13
      subst er
      rw [eF] at hC
      rcases ht0 : ti w p with _ | t
      · refine r_tI (y := (-9)) rfl ?_
        refine r_calli B hC hl.1 (b) 3 rfl rfl (by omega) h0 (As := [.int ((-9))]) (ctX3_wormsIn_none l g lo ad hb hL) gX2_isAtRest_X3_wormsIn rfl (n := 1) rfl (by decide +kernel) ⟨Nat.le_of_ble_eq_true rfl, Nat.le_of_ble_eq_true rfl⟩ ⟨Nat.zero_le _, Nat.zero_le _⟩ rfl (Nat.le_of_ble_eq_true rfl) dX2_isAtRest_16 (fun r16 F1 H locs hp16 hC => ?_)
        obtain ⟨er, eF⟩ := hp16
        subst er
        rw [eF] at hC
        refine lv_if_gt (tgt := 39) B.1 B.2.1 dX2_isAtRest_19 (by decide) (fun z => absurd z (nI_ngt0 (by omega))) (fun _ => ?_)
        refine lv_aload_n B.1 B.2.1 dX2_isAtRest_22 rfl (lv_at hl 2 rfl) ?_
        refine lv_iload_n B.1 B.2.1 dX2_isAtRest_23 rfl (lv_at hl 0 rfl) ?_
        refine r_calli B hC hl.1 (b) 3 rfl rfl (by omega) h0 (As := [.int (nI p)]) (ctX3_isOpen l g lo ad hb hL (t := p) (by omega) (hw.t10 (by omega))) gX2_isAtRest_X3_isOpen rfl (n := 1) rfl (by decide +kernel) ⟨Nat.le_of_ble_eq_true rfl, Nat.le_of_ble_eq_true rfl⟩ ⟨Nat.zero_le _, Nat.zero_le _⟩ rfl (Nat.le_of_ble_eq_true rfl) dX2_isAtRest_24 (fun r24 F1 H locs hp24 hC => ?_)
        obtain ⟨er, eF⟩ := hp24
        subst er
        rw [eF] at hC
        refine lv_if_ne (tgt := 41) B.1 B.2.1 dX2_isAtRest_27 (by decide) (fun _ => ?_) (fun z => absurd z (by rw [ht0]; decide))
        refine lv_iinc (v := nI (p + 1)) (lv' := [(2, .int (nI (p + 1))), (0, .ref (ad (3))), (1, .ref (ad (b)))]) B.1 B.2.1 dX2_isAtRest_41 hl (k := 0) rfl (nI_1 _) (by decide) rfl (fun ls hl => ?_)
        refine lv_goto (tgt := 2) B.1 B.2.1 dX2_isAtRest_44 (by decide) ?_
        exact ih2 (p + 1) (by omega) (by simp [restTo, hr, rest1, ht0]) _ _ ls hC (lv_sub hl [0, 1, 2] rfl)
      · have ht10 := hw.t10 (by omega) t ht0
        have hwo := (hw.1 t).2.2
        refine r_tI (y := nI t) rfl ?_
        refine r_calli B hC hl.1 (b) 3 rfl rfl (by omega) h0 (As := [.int (nI t)]) (ctX3_wormsIn_some l g lo ad hb hL (t := t) ht10) gX2_isAtRest_X3_wormsIn rfl (n := 1) rfl (by decide +kernel) ⟨Nat.le_of_ble_eq_true rfl, Nat.le_of_ble_eq_true rfl⟩ ⟨Nat.zero_le _, Nat.zero_le _⟩ rfl (Nat.le_of_ble_eq_true rfl) dX2_isAtRest_16 (fun r16 F1 H locs hp16 hC => ?_)
        obtain ⟨er, eF⟩ := hp16
        subst er
        rw [eF] at hC
        refine lv_if_gt (tgt := 39) B.1 B.2.1 dX2_isAtRest_19 (by decide) (fun c_19 => ?_) (fun c_19 => ?_)
        · have q_19 : 0 < wo w t := Nat.pos_of_ne_zero (fun z => nI_ngt0 z c_19)
          refine lv_iconst (v := nI 0) B.1 B.2.1 dX2_isAtRest_39 (by decide) ?_
          exact r_eZ B hC (v := nI 0) (rfl) (⟨by
      have z1 : restTo h w (p + 1) = false := by simp [restTo, rest1, ht0, q_19]
      have z2 := restTo_f z1 k
      rw [show p + 1 + k = hn h by omega] at z2
      rw [z2]; rfl, rfl⟩) dX2_isAtRest_40
        · have q_19 : wo w t = 0 := Nat.le_zero.mp (Nat.not_lt.mp (fun z => c_19 (nI_gt0 z (by omega))))
          refine lv_aload_n B.1 B.2.1 dX2_isAtRest_22 rfl (lv_at hl 2 rfl) ?_
          refine lv_iload_n B.1 B.2.1 dX2_isAtRest_23 rfl (lv_at hl 0 rfl) ?_
          refine r_calli B hC hl.1 (b) 3 rfl rfl (by omega) h0 (As := [.int (nI p)]) (ctX3_isOpen l g lo ad hb hL (t := p) (by omega) (hw.t10 (by omega))) gX2_isAtRest_X3_isOpen rfl (n := 1) rfl (by decide +kernel) ⟨Nat.le_of_ble_eq_true rfl, Nat.le_of_ble_eq_true rfl⟩ ⟨Nat.zero_le _, Nat.zero_le _⟩ rfl (Nat.le_of_ble_eq_true rfl) dX2_isAtRest_24 (fun r24 F1 H locs hp24 hC => ?_)
          obtain ⟨er, eF⟩ := hp24
          subst er
          rw [eF] at hC
          refine lv_if_ne (tgt := 41) B.1 B.2.1 dX2_isAtRest_27 (by decide) (fun z => absurd (by rw [ht0]; rfl) z) (fun _ => ?_)
          refine lv_aload_n B.1 B.2.1 dX2_isAtRest_30 rfl (lv_at hl 1 rfl) ?_
          refine lv_iload_n B.1 B.2.1 dX2_isAtRest_31 rfl (lv_at hl 0 rfl) ?_
          refine lv_aload_n B.1 B.2.1 dX2_isAtRest_32 rfl (lv_at hl 2 rfl) ?_
          refine r_calli B hC hl.1 (3) 2 rfl rfl (by decide) g0 (As := [.int (nI p), .ref (ad (b))]) (ctX2_hangsInAir l g lo ad hH ok hb hL hw (p := p) (by omega)) gX2_isAtRest_X2_hangsInAir rfl (n := 2) rfl (by decide +kernel) ⟨Nat.le_of_ble_eq_true rfl, Nat.le_of_ble_eq_true rfl⟩ ⟨Nat.zero_le _, Nat.zero_le _⟩ rfl (Nat.le_of_ble_eq_true rfl) dX2_isAtRest_33 (fun r33 F1 H locs hp33 hC => ?_)
          obtain ⟨er, eF⟩ := hp33
          subst er
          rw [eF] at hC
          refine lv_if_eq (tgt := 41) B.1 B.2.1 dX2_isAtRest_36 (by decide) (fun c_36 => ?_) (fun c_36 => ?_)
          · have q_36 : (hangV h w p) = false := bI_f.mp c_36
            refine lv_iinc (v := nI (p + 1)) (lv' := [(2, .int (nI (p + 1))), (0, .ref (ad (3))), (1, .ref (ad (b)))]) B.1 B.2.1 dX2_isAtRest_41 hl (k := 0) rfl (nI_1 _) (by decide) rfl (fun ls hl => ?_)
            refine lv_goto (tgt := 2) B.1 B.2.1 dX2_isAtRest_44 (by decide) ?_
            exact ih2 (p + 1) (by omega) (by simp [restTo, hr, rest1, ht0, q_19, q_36]) _ _ ls hC (lv_sub hl [0, 1, 2] rfl)
          · have q_36 : (hangV h w p) = true := bI_t.mp c_36
            refine lv_iconst (v := nI 0) B.1 B.2.1 dX2_isAtRest_39 (by decide) ?_
            exact r_eZ B hC (v := nI 0) (rfl) (⟨by
      have z1 : restTo h w (p + 1) = false := by simp [restTo, rest1, ht0, q_36]
      have z2 := restTo_f z1 k
      rw [show p + 1 + k = hn h by omega] at z2
      rw [z2]; rfl, rfl⟩) dX2_isAtRest_40
  exact loop2 (hn h) 0 (by omega) rfl _ _ ls hC (lv_sub hl [0, 1, 2] rfl)
theorem iwX2_watchesAtRest_X2 : ∀ w ∈ u_ws RX2 TX2 7, w ∈ wsX2_watchesAtRest := by decide +kernel
theorem flX2_watchesAtRest_28 : Cond.fieldLink RX2 28 RX2 (TX2 5).2.1 (TX2 5).2.2.1 ∈ wsX2_watchesAtRest := by decide +kernel
theorem flX2_watchesAtRest_31 : Cond.fieldLink RX2 31 RX2 (TX2 6).2.1 (TX2 6).2.2.1 ∈ wsX2_watchesAtRest := by decide +kernel
set_option maxHeartbeats 4000000 in
set_option maxRecDepth 100000 in
theorem ctX2_watchesAtRest (l : Launch) (g : Gx) (lo : Nat) (ad : Nat → Nat) {F : Nat → va_E} {h : HV} (hH : HullC g ad F h) (ok : HOK h) {b : Nat} {w : LV} (hb : 8 ≤ b ∧ b + 5 ≤ 196) (hL : LoadC g ad F b w) (hw : LOK h w) (hsu : su w = false) : MI l g lo 196 ad yX2_watchesAtRest wsX2_watchesAtRest 2 44 [.ref (ad (3)), .ref (ad (b))] F (fun r F' => r = nI (restN h w) ∧ F' = F) := by
  obtain ⟨g0, g1, g2, g3, g4⟩ := id hH
  have okn := ok.1
  have okp := ok.2.1
  have okh := ok.2.2.1
  obtain ⟨h0, h1, h2, h3, h4⟩ := id hL
  have hlk := leakV_le (w := w) ok
  have hwa := hw.2.2.1 hsu
  refine enter (cc := cX2_watchesAtRest) (maxL := 3) (ret := some .int) (own := RX2) (by decide +kernel) rfl rfl (Nat.le_of_ble_eq_true rfl) ?_
  intro pp ee ss mm below meth cc B hini hC ls hl
  have hl : lv_has ls 3 [(0, .ref (ad (3))), (1, .ref (ad (b)))] := hl
  refine lv_aload_n B.1 B.2.1 dX2_watchesAtRest_0 rfl (lv_at hl 0 rfl) ?_
  refine lv_aload_n B.1 B.2.1 dX2_watchesAtRest_1 rfl (lv_at hl 1 rfl) ?_
  refine r_calli B hC hl.1 (3) 2 rfl rfl (by decide) g0 (As := [.ref (ad (b))]) (ctX2_leakOf l g lo ad hH ok hb hL hw) gX2_watchesAtRest_X2_leakOf rfl (n := 1) rfl (by decide +kernel) ⟨Nat.le_of_ble_eq_true rfl, Nat.le_of_ble_eq_true rfl⟩ ⟨Nat.zero_le _, Nat.zero_le _⟩ rfl (Nat.le_of_ble_eq_true rfl) dX2_watchesAtRest_2 (fun r2 F1 H locs hp2 hC => ?_)
  obtain ⟨er, eF⟩ := hp2
  subst er
  rw [eF] at hC
  refine lv_aload_n B.1 B.2.1 dX2_watchesAtRest_5 rfl (lv_at hl 0 rfl) ?_
  refine r_cg B hC (i := 3) (by decide) g0 (C := RX2) (T := TX2) (n := 7) rfl iwX2_watchesAtRest_X2 5 (by decide) (index := 28) flX2_watchesAtRest_28 rfl (v := .int (nI (hpu h))) rfl dX2_watchesAtRest_6 ?_
  refine lv_isub B.1 B.2.1 dX2_watchesAtRest_9 ?_
  refine r_tI (y := nI (leakV h w) - nI (hpu h)) (rfl) ?_
  refine lv_istore_n (lv' := [(2, .int (nI (leakV h w) - nI (hpu h))), (0, .ref (ad (3))), (1, .ref (ad (b)))]) B.1 B.2.1 dX2_watchesAtRest_10 rfl hl (by decide) rfl (fun ls hl => ?_)
  refine lv_iload_n B.1 B.2.1 dX2_watchesAtRest_11 rfl (lv_at hl 0 rfl) ?_
  refine lv_if_le (tgt := 29) B.1 B.2.1 dX2_watchesAtRest_12 (by decide) (fun c_12 => ?_) (fun c_12 => ?_)
  · have q_12 := (nI_sub_le0 (by omega) (by omega)).mp c_12
    refine lv_bipush (v := nI 99) B.1 B.2.1 dX2_watchesAtRest_29 (by decide) ?_
    exact r_eI B hC (v := nI 99) (⟨by rw [restN, if_neg (by omega)], rfl⟩) dX2_watchesAtRest_31
  · have q_12 : ¬ leakV h w ≤ hpu h := fun z => c_12 ((nI_sub_le0 (by omega) (by omega)).mpr z)
    refine lv_aload_n B.1 B.2.1 dX2_watchesAtRest_15 rfl (lv_at hl 1 rfl) ?_
    refine r_cg B hC (i := 3) (by decide) g0 (C := RX2) (T := TX2) (n := 7) rfl iwX2_watchesAtRest_X2 6 (by decide) (index := 31) flX2_watchesAtRest_31 rfl (v := .int (nI (hho h))) rfl dX2_watchesAtRest_16 ?_
    refine lv_aload_n B.1 B.2.1 dX2_watchesAtRest_19 rfl (lv_at hl 2 rfl) ?_
    refine r_calli B hC hl.1 (b) 3 rfl rfl (by omega) h0 (As := []) (ctX3_waterInside l g lo ad hb hL) gX2_watchesAtRest_X3_waterInside rfl (n := 0) rfl (by decide +kernel) ⟨Nat.le_of_ble_eq_true rfl, Nat.le_of_ble_eq_true rfl⟩ ⟨Nat.zero_le _, Nat.zero_le _⟩ rfl (Nat.le_of_ble_eq_true rfl) dX2_watchesAtRest_20 (fun r20 F1 H locs hp20 hC => ?_)
    obtain ⟨er, eF⟩ := hp20
    subst er
    rw [eF] at hC
    refine lv_isub B.1 B.2.1 dX2_watchesAtRest_23 ?_
    refine r_tI (y := nI ((hho h) - (wa w))) (pk_sub (by omega)) ?_
    refine lv_iload_n B.1 B.2.1 dX2_watchesAtRest_24 rfl (lv_at hl 0 rfl) ?_
    refine r_tI (y := nI (leakV h w - hpu h)) (pk_sub (by omega)) ?_
    refine lv_idiv B.1 B.2.1 dX2_watchesAtRest_25 (nI_ne0 (by omega) (by omega)) ?_
    refine r_tI (y := nI (((hho h) - (wa w)) / (leakV h w - hpu h))) (pk_div (by omega) (by omega) (by omega)) ?_
    refine lv_goto (tgt := 31) B.1 B.2.1 dX2_watchesAtRest_26 (by decide) ?_
    exact r_eI B hC (v := nI (((hho h) - (wa w)) / (leakV h w - hpu h))) (⟨by rw [restN, if_pos (by omega)], rfl⟩) dX2_watchesAtRest_31
theorem mwX2_watchesAfloat_138_0 : Cond.methodLink RX2 138 Lib.Math.min.name ∈ wsX2_watchesAfloat := by decide +kernel
theorem mwX2_watchesAfloat_138_1 : Cond.static Lib.Math.min.name ∈ wsX2_watchesAfloat := by decide +kernel
theorem mwX2_watchesAfloat_138_2 : Cond.initialized "java/lang/Math" ∈ wsX2_watchesAfloat := by decide +kernel
theorem mwX2_watchesAfloat_138_3 : Cond.code Lib.Math.min.name Lib.Math.min.code 2 (some .int) ∈ wsX2_watchesAfloat := by decide +kernel
set_option maxHeartbeats 4000000 in
set_option maxRecDepth 100000 in
theorem ctX2_watchesAfloat (l : Launch) (g : Gx) (lo : Nat) (ad : Nat → Nat) {F : Nat → va_E} {h : HV} (hH : HullC g ad F h) (ok : HOK h) {b : Nat} {w : LV} (hb : 8 ≤ b ∧ b + 5 ≤ 196) (hL : LoadC g ad F b w) (hw : LOK h w) : MI l g lo 196 ad yX2_watchesAfloat wsX2_watchesAfloat 4 86 [.ref (ad (3)), .ref (ad (b))] F (fun r F' => r = nI (floatsV h w) ∧ ∃ w', LoadC g ad F' b w' ∧ CAN w' ∧ Same b (b + 5) F F') := by
  obtain ⟨g0, g1, g2, g3, g4⟩ := id hH
  have okn := ok.1
  have okp := ok.2.1
  have okh := ok.2.2.1
  obtain ⟨h0, h1, h2, h3, h4⟩ := id hL
  refine enter (cc := cX2_watchesAfloat) (maxL := 3) (ret := some .int) (own := RX2) (by decide +kernel) rfl rfl (Nat.le_of_ble_eq_true rfl) ?_
  intro pp ee ss mm below meth cc B hini hC ls hl
  have hl : lv_has ls 3 [(0, .ref (ad (3))), (1, .ref (ad (b)))] := hl
  refine lv_aload_n B.1 B.2.1 dX2_watchesAfloat_0 rfl (lv_at hl 1 rfl) ?_
  refine r_calli B hC hl.1 (b) 3 rfl rfl (by omega) h0 (As := []) (ctX3_isSunk l g lo ad hb hL) gX2_watchesAfloat_X3_isSunk rfl (n := 0) rfl (by decide +kernel) ⟨Nat.le_of_ble_eq_true rfl, Nat.le_of_ble_eq_true rfl⟩ ⟨Nat.zero_le _, Nat.zero_le _⟩ rfl (Nat.le_of_ble_eq_true rfl) dX2_watchesAfloat_1 (fun r1 F1 H locs hp1 hC => ?_)
  obtain ⟨er, eF⟩ := hp1
  subst er
  rw [eF] at hC
  refine lv_if_eq (tgt := 9) B.1 B.2.1 dX2_watchesAfloat_4 (by decide) (fun c_4 => ?_) (fun c_4 => ?_)
  · have q_4 : (su w) = false := bI_f.mp c_4
    refine lv_iconst (v := nI 0) B.1 B.2.1 dX2_watchesAfloat_9 (by decide) ?_
    refine lv_istore_n (lv' := [(2, .int (nI 0)), (0, .ref (ad (3))), (1, .ref (ad (b)))]) B.1 B.2.1 dX2_watchesAfloat_10 rfl hl (by decide) rfl (fun ls hl => ?_)
    have loop11 : ∀ (k : Nat) (s : Nat) (u : LV) (G : Nat → va_E), (s + k = 99) → (LoadC g ad G b u) → (HullC g ad G h) → (LOK h u) → (Same b (b + 5) F G) → (su u = false) → (floatsV h w = floatG h k s u) → ∀ (H : Heap) (locs : List Loc) (ls : Array Slot), Cu g lo 196 ad G ss ss.heap H locs → lv_has ls 3 [(2, .int (nI s)), (0, .ref (ad (3))), (1, .ref (ad (b)))] → W pp l ee { frames := 4, cells := 0, slots := 0, locals := 86 } ss mm ([.ref (ad (3)), .ref (ad (b))] : List Value).toArray below meth cc H locs 0 0 (MQ below (va_Qi (fun r F' => r = nI (floatsV h w) ∧ ∃ w', LoadC g ad F' b w' ∧ CAN w' ∧ Same b (b + 5) F F') (fun F' t => Wd g lo 196 ad F' t) (fun q => lo ≤ q)) ([.ref (ad (3)), .ref (ad (b))] : List Value).toArray ss 0 0 (fun q => lo ≤ q)) (F0 mm 11 ls []) := by
      intro k
      induction k with
      | zero =>
        intro s u G hpk hLG hHG hu hs hsu he H locs ls hC hl
        obtain ⟨g0, g1, g2, g3, g4⟩ := id hHG
        obtain ⟨h0, h1, h2, h3, h4⟩ := id hLG
        have hrn := restN_le (w := u) ok
        refine lv_iload_n B.1 B.2.1 dX2_watchesAfloat_11 rfl (lv_at hl 0 rfl) ?_
        refine lv_bipush (v := nI 99) B.1 B.2.1 dX2_watchesAfloat_12 (by decide) ?_
        refine lv_icmp_ge (tgt := 58) B.1 B.2.1 dX2_watchesAfloat_14 (by decide) (fun _ => ?_) (fun z => absurd (nI_le (by omega) (by omega)) z)
        refine lv_bipush (v := nI 99) B.1 B.2.1 dX2_watchesAfloat_58 (by decide) ?_
        exact r_eI B hC (v := nI 99) (⟨by rw [he, floatG], u, hLG, hu.can, hs⟩) dX2_watchesAfloat_60
      | succ k ih11 =>
        intro s u G hpk hLG hHG hu hs hsu he H locs ls hC hl
        obtain ⟨g0, g1, g2, g3, g4⟩ := id hHG
        obtain ⟨h0, h1, h2, h3, h4⟩ := id hLG
        have hrn := restN_le (w := u) ok
        refine lv_iload_n B.1 B.2.1 dX2_watchesAfloat_11 rfl (lv_at hl 0 rfl) ?_
        refine lv_bipush (v := nI 99) B.1 B.2.1 dX2_watchesAfloat_12 (by decide) ?_
        refine lv_icmp_ge (tgt := 58) B.1 B.2.1 dX2_watchesAfloat_14 (by decide) (fun z => absurd z (nI_ge (by omega) (by omega))) (fun _ => ?_)
        refine lv_aload_n B.1 B.2.1 dX2_watchesAfloat_17 rfl (lv_at hl 1 rfl) ?_
        refine lv_aload_n B.1 B.2.1 dX2_watchesAfloat_18 rfl (lv_at hl 2 rfl) ?_
        refine r_calli B hC hl.1 (3) 2 rfl rfl (by decide) g0 (As := [.ref (ad (b))]) (ctX2_isAtRest l g lo ad hHG ok hb hLG hu) gX2_watchesAfloat_X2_isAtRest rfl (n := 1) rfl (by decide +kernel) ⟨Nat.le_of_ble_eq_true rfl, Nat.le_of_ble_eq_true rfl⟩ ⟨Nat.zero_le _, Nat.zero_le _⟩ rfl (Nat.le_of_ble_eq_true rfl) dX2_watchesAfloat_19 (fun r19 F21 H locs hp19 hC => ?_)
        obtain ⟨er, eF⟩ := hp19
        subst er
        rw [eF] at hC
        refine lv_if_eq (tgt := 38) B.1 B.2.1 dX2_watchesAfloat_22 (by decide) (fun c_22 => ?_) (fun c_22 => ?_)
        · have q_22 : (restTo h u (hn h)) = false := bI_f.mp c_22
          refine lv_aload_n B.1 B.2.1 dX2_watchesAfloat_38 rfl (lv_at hl 1 rfl) ?_
          refine lv_aload_n B.1 B.2.1 dX2_watchesAfloat_39 rfl (lv_at hl 2 rfl) ?_
          refine r_callv B hC hl.1 (3) 2 rfl rfl (by decide) g0 (As := [.ref (ad (b))]) (ctX2_passWatch l g lo ad hHG ok hb hLG hu hsu) gX2_watchesAfloat_X2_passWatch rfl (n := 1) rfl (by decide +kernel) ⟨Nat.le_of_ble_eq_true rfl, Nat.le_of_ble_eq_true rfl⟩ ⟨Nat.zero_le _, Nat.zero_le _⟩ rfl (Nat.le_of_ble_eq_true rfl) dX2_watchesAfloat_40 (fun F21 H locs hp40 hC => ?_)
          obtain ⟨hL_F21, hs_F21⟩ := hp40
          have hH_F21 := HullC.keep hHG hs_F21 (by omega)
          have hw_F21 : LOK h (watchV h u) := LOK_watch ok hu hsu
          obtain ⟨h0_F21, h1_F21, h2_F21, h3_F21, h4_F21⟩ := id hL_F21
          obtain ⟨g0_F21, g1_F21, g2_F21, g3_F21, g4_F21⟩ := id hH_F21
          refine lv_aload_n B.1 B.2.1 dX2_watchesAfloat_43 rfl (lv_at hl 2 rfl) ?_
          refine r_calli B hC hl.1 (b) 3 rfl rfl (by omega) h0_F21 (As := []) (ctX3_isSunk l g lo ad hb hL_F21) gX2_watchesAfloat_X3_isSunk rfl (n := 0) rfl (by decide +kernel) ⟨Nat.le_of_ble_eq_true rfl, Nat.le_of_ble_eq_true rfl⟩ ⟨Nat.zero_le _, Nat.zero_le _⟩ rfl (Nat.le_of_ble_eq_true rfl) dX2_watchesAfloat_44 (fun r44 F22 H locs hp44 hC => ?_)
          obtain ⟨er, eF⟩ := hp44
          subst er
          rw [eF] at hC
          refine lv_if_eq (tgt := 52) B.1 B.2.1 dX2_watchesAfloat_47 (by decide) (fun c_47 => ?_) (fun c_47 => ?_)
          · have q_47 : (su (watchV h u)) = false := bI_f.mp c_47
            refine lv_iinc (v := nI (s + 1)) (lv' := [(2, .int (nI (s + 1))), (0, .ref (ad (3))), (1, .ref (ad (b)))]) B.1 B.2.1 dX2_watchesAfloat_52 hl (k := 0) rfl (nI_1 _) (by decide) rfl (fun ls hl => ?_)
            refine lv_goto (tgt := 11) B.1 B.2.1 dX2_watchesAfloat_55 (by decide) ?_
            exact ih11 (s + 1) (watchV h u) F21 (by omega) hL_F21 hH_F21 hw_F21 (Same.tr2 (Same.wide hs (by omega) (by omega)) hs_F21 (by omega) (by omega)) q_47 (by rw [he, floatG, if_neg (by rw [q_22]; decide), if_neg (by rw [q_47]; decide)]) _ _ ls hC (lv_sub hl [0, 1, 2] rfl)
          · have q_47 : (su (watchV h u)) = true := bI_t.mp c_47
            refine lv_iload_n B.1 B.2.1 dX2_watchesAfloat_50 rfl (lv_at hl 0 rfl) ?_
            exact r_eI B hC (v := nI s) (⟨by rw [he, floatG, if_neg (by rw [q_22]; decide), if_pos q_47], _, hL_F21, (hw_F21).can, (Same.tr2 (Same.wide hs (by omega) (by omega)) hs_F21 (by omega) (by omega))⟩) dX2_watchesAfloat_51
        · have q_22 : (restTo h u (hn h)) = true := bI_t.mp c_22
          refine lv_bipush (v := nI 99) B.1 B.2.1 dX2_watchesAfloat_25 (by decide) ?_
          refine lv_iload_n B.1 B.2.1 dX2_watchesAfloat_27 rfl (lv_at hl 0 rfl) ?_
          refine lv_aload_n B.1 B.2.1 dX2_watchesAfloat_28 rfl (lv_at hl 1 rfl) ?_
          refine lv_aload_n B.1 B.2.1 dX2_watchesAfloat_29 rfl (lv_at hl 2 rfl) ?_
          refine r_calli B hC hl.1 (3) 2 rfl rfl (by decide) g0 (As := [.ref (ad (b))]) (ctX2_watchesAtRest l g lo ad hHG ok hb hLG hu hsu) gX2_watchesAfloat_X2_watchesAtRest rfl (n := 1) rfl (by decide +kernel) ⟨Nat.le_of_ble_eq_true rfl, Nat.le_of_ble_eq_true rfl⟩ ⟨Nat.zero_le _, Nat.zero_le _⟩ rfl (Nat.le_of_ble_eq_true rfl) dX2_watchesAfloat_30 (fun r30 F21 H locs hp30 hC => ?_)
          obtain ⟨er, eF⟩ := hp30
          subst er
          rw [eF] at hC
          refine lv_iadd B.1 B.2.1 dX2_watchesAfloat_33 ?_
          refine r_tI (y := nI (s + (restN h u))) (nI_add _ _) ?_
          refine r_min B hl.1 mwX2_watchesAfloat_138_0 mwX2_watchesAfloat_138_1 mwX2_watchesAfloat_138_2 mwX2_watchesAfloat_138_3 (Nat.le_of_ble_eq_true rfl) (Nat.le_of_ble_eq_true rfl) (Nat.zero_le _) (Nat.zero_le _) dX2_watchesAfloat_34 ?_
          refine r_tI (y := nI (min 99 (s + restN h u))) (min_nI (by omega) (by omega)) ?_
          exact r_eI B hC (v := nI (min 99 (s + restN h u))) (⟨by rw [he, floatG, if_pos q_22], u, hLG, hu.can, hs⟩) dX2_watchesAfloat_37
    exact loop11 99 0 w F rfl hL hH hw Same.rf q_4 (by rw [floatsV, if_neg (by rw [q_4]; decide)]) _ _ ls hC (lv_sub hl [0, 1, 2] rfl)
  · have q_4 : (su w) = true := bI_t.mp c_4
    refine lv_iconst (v := nI 0) B.1 B.2.1 dX2_watchesAfloat_7 (by decide) ?_
    exact r_eI B hC (v := nI 0) (⟨by rw [floatsV, if_pos q_4], w, hL, hw.can, Same.rf⟩) dX2_watchesAfloat_8
end
section
/-! the JDK's own: floorMod by 24, bitCount and numberOfTrailingZeros of ten bits -/
theorem nI_xor (a b : Nat) : nI a ^^^ nI b = nI (a ^^^ b) := by
  apply Int32.toBitVec_inj.mp
  rw [Int32.toBitVec_xor]
  show BitVec.ofNat 32 a ^^^ BitVec.ofNat 32 b = BitVec.ofNat 32 (a ^^^ b)
  exact (BitVec.ofNat_xor ..).symm
def ush (x : Int32) (k : Nat) : Int32 := (x.toUInt32 >>> ((nI k).toUInt32 &&& Int32.toUInt32 31)).toInt32
def bc1 (x : Int32) : Int32 := x - (ush x 1 &&& nI 1431655765)
def bc2 (x : Int32) : Int32 := (bc1 x &&& nI 858993459) + (ush (bc1 x) 2 &&& nI 858993459)
def bc3 (x : Int32) : Int32 := (bc2 x + ush (bc2 x) 4) &&& nI 252645135
def bc4 (x : Int32) : Int32 := bc3 x + ush (bc3 x) 8
def bc5 (x : Int32) : Int32 := bc4 x + ush (bc4 x) 16
def popTo (v : Nat) : Nat → Nat
  | 0 => 0
  | k + 1 => popTo v k + (if v.testBit k = true then 1 else 0)
theorem bc_ok : ∀ v, v < 1024 → bc5 (nI v) &&& nI 63 = nI (popTo v 10) := by decide +kernel
set_option maxHeartbeats 4000000 in
set_option maxRecDepth 100000 in
theorem ctJ9_floorMod (l : Launch) (g : Gx) (lo : Nat) (ad : Nat → Nat) {F : Nat → va_E} {a : Nat} (ha : a < 1000) : MI l g lo 196 ad yJ9_floorMod_7cf53 wsJ9_floorMod_7cf53 0 0 [.int (nI a), .int (nI 24)] F (fun r F' => r = nI (a % 24) ∧ F' = F) := by
  refine enter (cc := cJ9_floorMod_7cf53) (maxL := 3) (ret := some .int) (own := RJ9) (by decide +kernel) rfl rfl (Nat.le_of_ble_eq_true rfl) ?_
  intro pp ee ss mm below meth cc B hini hC ls hl
  have hl : lv_has ls 3 [(0, .int (nI a)), (1, .int (nI 24))] := hl
  refine lv_iload_n B.1 B.2.1 dJ9_floorMod_7cf53_0 rfl (lv_at hl 0 rfl) ?_
  refine lv_iload_n B.1 B.2.1 dJ9_floorMod_7cf53_1 rfl (lv_at hl 1 rfl) ?_
  refine lv_irem B.1 B.2.1 dJ9_floorMod_7cf53_2 (by decide) ?_
  refine r_tI (y := nI (a % 24)) (pk_rem (by omega) (by omega) (by omega)) ?_
  refine lv_istore_n (lv' := [(2, .int (nI (a % 24))), (0, .int (nI a)), (1, .int (nI 24))]) B.1 B.2.1 dJ9_floorMod_7cf53_3 rfl hl (by decide) rfl (fun ls hl => ?_)
  refine lv_iload_n B.1 B.2.1 dJ9_floorMod_7cf53_4 rfl (lv_at hl 1 rfl) ?_
  refine lv_iload_n B.1 B.2.1 dJ9_floorMod_7cf53_5 rfl (lv_at hl 2 rfl) ?_
  refine lv_ixor B.1 B.2.1 dJ9_floorMod_7cf53_6 ?_
  refine r_tI (y := nI (a ^^^ 24)) (nI_xor _ _) ?_
  refine lv_if_ge (tgt := 18) B.1 B.2.1 dJ9_floorMod_7cf53_7 (by decide) (fun _ => ?_) (fun z => absurd (nI_pos' (Nat.lt_trans (Nat.xor_lt_two_pow (n := 10) (by omega) (by decide)) (by decide))) z)
  refine lv_iload_n B.1 B.2.1 dJ9_floorMod_7cf53_18 rfl (lv_at hl 0 rfl) ?_
  exact r_eI B hC (v := nI (a % 24)) (⟨rfl, rfl⟩) dJ9_floorMod_7cf53_19
set_option maxHeartbeats 4000000 in
set_option maxRecDepth 100000 in
theorem ctJ6_bitCount (l : Launch) (g : Gx) (lo : Nat) (ad : Nat → Nat) {F : Nat → va_E} {v : Nat} (hv : v < 1024) : MI l g lo 196 ad yJ6_bitCount_0f7a4 wsJ6_bitCount_0f7a4 0 0 [.int (nI v)] F (fun r F' => r = nI (popTo v 10) ∧ F' = F) := by
  refine enter (cc := cJ6_bitCount_0f7a4) (maxL := 1) (ret := some .int) (own := RJ6) (by decide +kernel) rfl rfl (Nat.le_of_ble_eq_true rfl) ?_
  intro pp ee ss mm below meth cc B hini hC ls hl
  have hl : lv_has ls 1 [(0, .int (nI v))] := hl
  refine lv_iload_n B.1 B.2.1 dJ6_bitCount_0f7a4_0 rfl (lv_at hl 0 rfl) ?_
  refine lv_iload_n B.1 B.2.1 dJ6_bitCount_0f7a4_1 rfl (lv_at hl 0 rfl) ?_
  refine lv_iconst (v := nI 1) B.1 B.2.1 dJ6_bitCount_0f7a4_2 (by decide) ?_
  refine lv_iushr (v := ush (nI v) 1) B.1 B.2.1 dJ6_bitCount_0f7a4_3 (rfl) ?_
  refine lv_ldcw (own := RJ6) (v := nI 1431655765) B.1 B.2.1 B.2.2.2.1 (B.2.2.2.2.1 (.constant RJ6 265 (1431655765)) (by decide +kernel)) dJ6_bitCount_0f7a4_4 ?_
  refine lv_iand B.1 B.2.1 dJ6_bitCount_0f7a4_7 ?_
  refine r_tI (y := (ush (nI v) 1) &&& (nI 1431655765)) (rfl) ?_
  refine lv_isub B.1 B.2.1 dJ6_bitCount_0f7a4_8 ?_
  refine r_tI (y := bc1 (nI v)) (rfl) ?_
  refine lv_istore_n (lv' := [(0, .int (bc1 (nI v)))]) B.1 B.2.1 dJ6_bitCount_0f7a4_9 rfl hl (by decide) rfl (fun ls hl => ?_)
  refine lv_iload_n B.1 B.2.1 dJ6_bitCount_0f7a4_10 rfl (lv_at hl 0 rfl) ?_
  refine lv_ldcw (own := RJ6) (v := nI 858993459) B.1 B.2.1 B.2.2.2.1 (B.2.2.2.2.1 (.constant RJ6 266 (858993459)) (by decide +kernel)) dJ6_bitCount_0f7a4_11 ?_
  refine lv_iand B.1 B.2.1 dJ6_bitCount_0f7a4_14 ?_
  refine r_tI (y := (bc1 (nI v)) &&& (nI 858993459)) (rfl) ?_
  refine lv_iload_n B.1 B.2.1 dJ6_bitCount_0f7a4_15 rfl (lv_at hl 0 rfl) ?_
  refine lv_iconst (v := nI 2) B.1 B.2.1 dJ6_bitCount_0f7a4_16 (by decide) ?_
  refine lv_iushr (v := ush (bc1 (nI v)) 2) B.1 B.2.1 dJ6_bitCount_0f7a4_17 (rfl) ?_
  refine lv_ldcw (own := RJ6) (v := nI 858993459) B.1 B.2.1 B.2.2.2.1 (B.2.2.2.2.1 (.constant RJ6 266 (858993459)) (by decide +kernel)) dJ6_bitCount_0f7a4_18 ?_
  refine lv_iand B.1 B.2.1 dJ6_bitCount_0f7a4_21 ?_
  refine r_tI (y := (ush (bc1 (nI v)) 2) &&& (nI 858993459)) (rfl) ?_
  refine lv_iadd B.1 B.2.1 dJ6_bitCount_0f7a4_22 ?_
  refine r_tI (y := bc2 (nI v)) (rfl) ?_
  refine lv_istore_n (lv' := [(0, .int (bc2 (nI v)))]) B.1 B.2.1 dJ6_bitCount_0f7a4_23 rfl hl (by decide) rfl (fun ls hl => ?_)
  refine lv_iload_n B.1 B.2.1 dJ6_bitCount_0f7a4_24 rfl (lv_at hl 0 rfl) ?_
  refine lv_iload_n B.1 B.2.1 dJ6_bitCount_0f7a4_25 rfl (lv_at hl 0 rfl) ?_
  refine lv_iconst (v := nI 4) B.1 B.2.1 dJ6_bitCount_0f7a4_26 (by decide) ?_
  refine lv_iushr (v := ush (bc2 (nI v)) 4) B.1 B.2.1 dJ6_bitCount_0f7a4_27 (rfl) ?_
  refine lv_iadd B.1 B.2.1 dJ6_bitCount_0f7a4_28 ?_
  refine r_tI (y := (bc2 (nI v)) + (ush (bc2 (nI v)) 4)) (rfl) ?_
  refine lv_ldcw (own := RJ6) (v := nI 252645135) B.1 B.2.1 B.2.2.2.1 (B.2.2.2.2.1 (.constant RJ6 267 (252645135)) (by decide +kernel)) dJ6_bitCount_0f7a4_29 ?_
  refine lv_iand B.1 B.2.1 dJ6_bitCount_0f7a4_32 ?_
  refine r_tI (y := bc3 (nI v)) (rfl) ?_
  refine lv_istore_n (lv' := [(0, .int (bc3 (nI v)))]) B.1 B.2.1 dJ6_bitCount_0f7a4_33 rfl hl (by decide) rfl (fun ls hl => ?_)
  refine lv_iload_n B.1 B.2.1 dJ6_bitCount_0f7a4_34 rfl (lv_at hl 0 rfl) ?_
  refine lv_iload_n B.1 B.2.1 dJ6_bitCount_0f7a4_35 rfl (lv_at hl 0 rfl) ?_
  refine lv_bipush (v := nI 8) B.1 B.2.1 dJ6_bitCount_0f7a4_36 (by decide) ?_
  refine lv_iushr (v := ush (bc3 (nI v)) 8) B.1 B.2.1 dJ6_bitCount_0f7a4_38 (rfl) ?_
  refine lv_iadd B.1 B.2.1 dJ6_bitCount_0f7a4_39 ?_
  refine r_tI (y := bc4 (nI v)) (rfl) ?_
  refine lv_istore_n (lv' := [(0, .int (bc4 (nI v)))]) B.1 B.2.1 dJ6_bitCount_0f7a4_40 rfl hl (by decide) rfl (fun ls hl => ?_)
  refine lv_iload_n B.1 B.2.1 dJ6_bitCount_0f7a4_41 rfl (lv_at hl 0 rfl) ?_
  refine lv_iload_n B.1 B.2.1 dJ6_bitCount_0f7a4_42 rfl (lv_at hl 0 rfl) ?_
  refine lv_bipush (v := nI 16) B.1 B.2.1 dJ6_bitCount_0f7a4_43 (by decide) ?_
  refine lv_iushr (v := ush (bc4 (nI v)) 16) B.1 B.2.1 dJ6_bitCount_0f7a4_45 (rfl) ?_
  refine lv_iadd B.1 B.2.1 dJ6_bitCount_0f7a4_46 ?_
  refine r_tI (y := bc5 (nI v)) (rfl) ?_
  refine lv_istore_n (lv' := [(0, .int (bc5 (nI v)))]) B.1 B.2.1 dJ6_bitCount_0f7a4_47 rfl hl (by decide) rfl (fun ls hl => ?_)
  refine lv_iload_n B.1 B.2.1 dJ6_bitCount_0f7a4_48 rfl (lv_at hl 0 rfl) ?_
  refine lv_bipush (v := nI 63) B.1 B.2.1 dJ6_bitCount_0f7a4_49 (by decide) ?_
  refine lv_iand B.1 B.2.1 dJ6_bitCount_0f7a4_51 ?_
  refine r_tI (y := nI (popTo v 10)) (bc_ok v hv) ?_
  exact r_eI B hC (v := nI (popTo v 10)) (⟨rfl, rfl⟩) dJ6_bitCount_0f7a4_52
set_option maxHeartbeats 4000000 in
set_option maxRecDepth 100000 in
theorem ctJ6_ntz0 (l : Launch) (g : Gx) (lo : Nat) (ad : Nat → Nat) {F : Nat → va_E} : MI l g lo 196 ad yJ6_numberOfTrailingZeros_0f7a4 wsJ6_numberOfTrailingZeros_0f7a4 0 0 [.int (nI 1)] F (fun r F' => r = nI 0 ∧ F' = F) := by
  refine enter (cc := cJ6_numberOfTrailingZeros_0f7a4) (maxL := 2) (ret := some .int) (own := RJ6) (by decide +kernel) rfl rfl (Nat.le_of_ble_eq_true rfl) ?_
  intro pp ee ss mm below meth cc B hini hC ls hl
  have hl : lv_has ls 2 [(0, .int (nI 1))] := hl
  refine lv_iload_n B.1 B.2.1 dJ6_numberOfTrailingZeros_0f7a4_0 rfl (lv_at hl 0 rfl) ?_
  refine lv_iconst (v := (-1)) B.1 B.2.1 dJ6_numberOfTrailingZeros_0f7a4_1 (by decide) ?_
  refine lv_ixor B.1 B.2.1 dJ6_numberOfTrailingZeros_0f7a4_2 ?_
  refine r_tI (y := (-2)) (by decide) ?_
  refine lv_iload_n B.1 B.2.1 dJ6_numberOfTrailingZeros_0f7a4_3 rfl (lv_at hl 0 rfl) ?_
  refine lv_iconst (v := nI 1) B.1 B.2.1 dJ6_numberOfTrailingZeros_0f7a4_4 (by decide) ?_
  refine lv_isub B.1 B.2.1 dJ6_numberOfTrailingZeros_0f7a4_5 ?_
  refine r_tI (y := nI 0) (by decide) ?_
  refine lv_iand B.1 B.2.1 dJ6_numberOfTrailingZeros_0f7a4_6 ?_
  refine r_tI (y := nI 0) (by decide) ?_
  refine lv_istore_n (lv' := [(0, .int (nI 0))]) B.1 B.2.1 dJ6_numberOfTrailingZeros_0f7a4_7 rfl hl (by decide) rfl (fun ls hl => ?_)
  refine lv_iload_n B.1 B.2.1 dJ6_numberOfTrailingZeros_0f7a4_8 rfl (lv_at hl 0 rfl) ?_
  refine lv_if_gt (tgt := 17) B.1 B.2.1 dJ6_numberOfTrailingZeros_0f7a4_9 (by decide) (fun z => absurd z (by decide)) (fun _ => ?_)
  refine lv_iload_n B.1 B.2.1 dJ6_numberOfTrailingZeros_0f7a4_12 rfl (lv_at hl 0 rfl) ?_
  refine lv_bipush (v := nI 32) B.1 B.2.1 dJ6_numberOfTrailingZeros_0f7a4_13 (by decide) ?_
  refine lv_iand B.1 B.2.1 dJ6_numberOfTrailingZeros_0f7a4_15 ?_
  refine r_tI (y := nI 0) (by decide) ?_
  exact r_eI B hC (v := nI 0) (⟨rfl, rfl⟩) dJ6_numberOfTrailingZeros_0f7a4_16
set_option maxHeartbeats 4000000 in
set_option maxRecDepth 100000 in
theorem ctJ6_ntz1 (l : Launch) (g : Gx) (lo : Nat) (ad : Nat → Nat) {F : Nat → va_E} : MI l g lo 196 ad yJ6_numberOfTrailingZeros_0f7a4 wsJ6_numberOfTrailingZeros_0f7a4 0 0 [.int (nI 2)] F (fun r F' => r = nI 1 ∧ F' = F) := by
  refine enter (cc := cJ6_numberOfTrailingZeros_0f7a4) (maxL := 2) (ret := some .int) (own := RJ6) (by decide +kernel) rfl rfl (Nat.le_of_ble_eq_true rfl) ?_
  intro pp ee ss mm below meth cc B hini hC ls hl
  have hl : lv_has ls 2 [(0, .int (nI 2))] := hl
  refine lv_iload_n B.1 B.2.1 dJ6_numberOfTrailingZeros_0f7a4_0 rfl (lv_at hl 0 rfl) ?_
  refine lv_iconst (v := (-1)) B.1 B.2.1 dJ6_numberOfTrailingZeros_0f7a4_1 (by decide) ?_
  refine lv_ixor B.1 B.2.1 dJ6_numberOfTrailingZeros_0f7a4_2 ?_
  refine r_tI (y := (-3)) (by decide) ?_
  refine lv_iload_n B.1 B.2.1 dJ6_numberOfTrailingZeros_0f7a4_3 rfl (lv_at hl 0 rfl) ?_
  refine lv_iconst (v := nI 1) B.1 B.2.1 dJ6_numberOfTrailingZeros_0f7a4_4 (by decide) ?_
  refine lv_isub B.1 B.2.1 dJ6_numberOfTrailingZeros_0f7a4_5 ?_
  refine r_tI (y := nI 1) (by decide) ?_
  refine lv_iand B.1 B.2.1 dJ6_numberOfTrailingZeros_0f7a4_6 ?_
  refine r_tI (y := nI 1) (by decide) ?_
  refine lv_istore_n (lv' := [(0, .int (nI 1))]) B.1 B.2.1 dJ6_numberOfTrailingZeros_0f7a4_7 rfl hl (by decide) rfl (fun ls hl => ?_)
  refine lv_iload_n B.1 B.2.1 dJ6_numberOfTrailingZeros_0f7a4_8 rfl (lv_at hl 0 rfl) ?_
  refine lv_if_gt (tgt := 17) B.1 B.2.1 dJ6_numberOfTrailingZeros_0f7a4_9 (by decide) (fun _ => ?_) (fun z => absurd (by decide) z)
  refine lv_iconst (v := nI 1) B.1 B.2.1 dJ6_numberOfTrailingZeros_0f7a4_17 (by decide) ?_
  refine lv_istore_n (lv' := [(1, .int (nI 1)), (0, .int (nI 1))]) B.1 B.2.1 dJ6_numberOfTrailingZeros_0f7a4_18 rfl hl (by decide) rfl (fun ls hl => ?_)
  refine lv_iload_n B.1 B.2.1 dJ6_numberOfTrailingZeros_0f7a4_19 rfl (lv_at hl 1 rfl) ?_
  refine lv_ldcw (own := RJ6) (v := nI 65536) B.1 B.2.1 B.2.2.2.1 (B.2.2.2.2.1 (.constant RJ6 264 (65536)) (by decide +kernel)) dJ6_numberOfTrailingZeros_0f7a4_20 ?_
  refine lv_icmp_le (tgt := 34) B.1 B.2.1 dJ6_numberOfTrailingZeros_0f7a4_23 (by decide) (fun _ => ?_) (fun z => absurd (by decide) z)
  refine lv_iload_n B.1 B.2.1 dJ6_numberOfTrailingZeros_0f7a4_34 rfl (lv_at hl 1 rfl) ?_
  refine lv_sipush (v := nI 256) B.1 B.2.1 dJ6_numberOfTrailingZeros_0f7a4_35 (by decide) ?_
  refine lv_icmp_le (tgt := 49) B.1 B.2.1 dJ6_numberOfTrailingZeros_0f7a4_38 (by decide) (fun _ => ?_) (fun z => absurd (by decide) z)
  refine lv_iload_n B.1 B.2.1 dJ6_numberOfTrailingZeros_0f7a4_49 rfl (lv_at hl 1 rfl) ?_
  refine lv_bipush (v := nI 16) B.1 B.2.1 dJ6_numberOfTrailingZeros_0f7a4_50 (by decide) ?_
  refine lv_icmp_le (tgt := 62) B.1 B.2.1 dJ6_numberOfTrailingZeros_0f7a4_52 (by decide) (fun _ => ?_) (fun z => absurd (by decide) z)
  refine lv_iload_n B.1 B.2.1 dJ6_numberOfTrailingZeros_0f7a4_62 rfl (lv_at hl 1 rfl) ?_
  refine lv_iconst (v := nI 4) B.1 B.2.1 dJ6_numberOfTrailingZeros_0f7a4_63 (by decide) ?_
  refine lv_icmp_le (tgt := 74) B.1 B.2.1 dJ6_numberOfTrailingZeros_0f7a4_64 (by decide) (fun _ => ?_) (fun z => absurd (by decide) z)
  refine lv_iload_n B.1 B.2.1 dJ6_numberOfTrailingZeros_0f7a4_74 rfl (lv_at hl 0 rfl) ?_
  refine lv_iload_n B.1 B.2.1 dJ6_numberOfTrailingZeros_0f7a4_75 rfl (lv_at hl 1 rfl) ?_
  refine lv_iconst (v := nI 1) B.1 B.2.1 dJ6_numberOfTrailingZeros_0f7a4_76 (by decide) ?_
  refine lv_iushr (v := nI 0) B.1 B.2.1 dJ6_numberOfTrailingZeros_0f7a4_77 (by decide) ?_
  refine lv_iadd B.1 B.2.1 dJ6_numberOfTrailingZeros_0f7a4_78 ?_
  refine r_tI (y := nI 1) (by decide) ?_
  exact r_eI B hC (v := nI 1) (⟨rfl, rfl⟩) dJ6_numberOfTrailingZeros_0f7a4_79
set_option maxHeartbeats 4000000 in
set_option maxRecDepth 100000 in
theorem ctJ6_ntz2 (l : Launch) (g : Gx) (lo : Nat) (ad : Nat → Nat) {F : Nat → va_E} : MI l g lo 196 ad yJ6_numberOfTrailingZeros_0f7a4 wsJ6_numberOfTrailingZeros_0f7a4 0 0 [.int (nI 4)] F (fun r F' => r = nI 2 ∧ F' = F) := by
  refine enter (cc := cJ6_numberOfTrailingZeros_0f7a4) (maxL := 2) (ret := some .int) (own := RJ6) (by decide +kernel) rfl rfl (Nat.le_of_ble_eq_true rfl) ?_
  intro pp ee ss mm below meth cc B hini hC ls hl
  have hl : lv_has ls 2 [(0, .int (nI 4))] := hl
  refine lv_iload_n B.1 B.2.1 dJ6_numberOfTrailingZeros_0f7a4_0 rfl (lv_at hl 0 rfl) ?_
  refine lv_iconst (v := (-1)) B.1 B.2.1 dJ6_numberOfTrailingZeros_0f7a4_1 (by decide) ?_
  refine lv_ixor B.1 B.2.1 dJ6_numberOfTrailingZeros_0f7a4_2 ?_
  refine r_tI (y := (-5)) (by decide) ?_
  refine lv_iload_n B.1 B.2.1 dJ6_numberOfTrailingZeros_0f7a4_3 rfl (lv_at hl 0 rfl) ?_
  refine lv_iconst (v := nI 1) B.1 B.2.1 dJ6_numberOfTrailingZeros_0f7a4_4 (by decide) ?_
  refine lv_isub B.1 B.2.1 dJ6_numberOfTrailingZeros_0f7a4_5 ?_
  refine r_tI (y := nI 3) (by decide) ?_
  refine lv_iand B.1 B.2.1 dJ6_numberOfTrailingZeros_0f7a4_6 ?_
  refine r_tI (y := nI 3) (by decide) ?_
  refine lv_istore_n (lv' := [(0, .int (nI 3))]) B.1 B.2.1 dJ6_numberOfTrailingZeros_0f7a4_7 rfl hl (by decide) rfl (fun ls hl => ?_)
  refine lv_iload_n B.1 B.2.1 dJ6_numberOfTrailingZeros_0f7a4_8 rfl (lv_at hl 0 rfl) ?_
  refine lv_if_gt (tgt := 17) B.1 B.2.1 dJ6_numberOfTrailingZeros_0f7a4_9 (by decide) (fun _ => ?_) (fun z => absurd (by decide) z)
  refine lv_iconst (v := nI 1) B.1 B.2.1 dJ6_numberOfTrailingZeros_0f7a4_17 (by decide) ?_
  refine lv_istore_n (lv' := [(1, .int (nI 1)), (0, .int (nI 3))]) B.1 B.2.1 dJ6_numberOfTrailingZeros_0f7a4_18 rfl hl (by decide) rfl (fun ls hl => ?_)
  refine lv_iload_n B.1 B.2.1 dJ6_numberOfTrailingZeros_0f7a4_19 rfl (lv_at hl 1 rfl) ?_
  refine lv_ldcw (own := RJ6) (v := nI 65536) B.1 B.2.1 B.2.2.2.1 (B.2.2.2.2.1 (.constant RJ6 264 (65536)) (by decide +kernel)) dJ6_numberOfTrailingZeros_0f7a4_20 ?_
  refine lv_icmp_le (tgt := 34) B.1 B.2.1 dJ6_numberOfTrailingZeros_0f7a4_23 (by decide) (fun _ => ?_) (fun z => absurd (by decide) z)
  refine lv_iload_n B.1 B.2.1 dJ6_numberOfTrailingZeros_0f7a4_34 rfl (lv_at hl 1 rfl) ?_
  refine lv_sipush (v := nI 256) B.1 B.2.1 dJ6_numberOfTrailingZeros_0f7a4_35 (by decide) ?_
  refine lv_icmp_le (tgt := 49) B.1 B.2.1 dJ6_numberOfTrailingZeros_0f7a4_38 (by decide) (fun _ => ?_) (fun z => absurd (by decide) z)
  refine lv_iload_n B.1 B.2.1 dJ6_numberOfTrailingZeros_0f7a4_49 rfl (lv_at hl 1 rfl) ?_
  refine lv_bipush (v := nI 16) B.1 B.2.1 dJ6_numberOfTrailingZeros_0f7a4_50 (by decide) ?_
  refine lv_icmp_le (tgt := 62) B.1 B.2.1 dJ6_numberOfTrailingZeros_0f7a4_52 (by decide) (fun _ => ?_) (fun z => absurd (by decide) z)
  refine lv_iload_n B.1 B.2.1 dJ6_numberOfTrailingZeros_0f7a4_62 rfl (lv_at hl 1 rfl) ?_
  refine lv_iconst (v := nI 4) B.1 B.2.1 dJ6_numberOfTrailingZeros_0f7a4_63 (by decide) ?_
  refine lv_icmp_le (tgt := 74) B.1 B.2.1 dJ6_numberOfTrailingZeros_0f7a4_64 (by decide) (fun _ => ?_) (fun z => absurd (by decide) z)
  refine lv_iload_n B.1 B.2.1 dJ6_numberOfTrailingZeros_0f7a4_74 rfl (lv_at hl 0 rfl) ?_
  refine lv_iload_n B.1 B.2.1 dJ6_numberOfTrailingZeros_0f7a4_75 rfl (lv_at hl 1 rfl) ?_
  refine lv_iconst (v := nI 1) B.1 B.2.1 dJ6_numberOfTrailingZeros_0f7a4_76 (by decide) ?_
  refine lv_iushr (v := nI 1) B.1 B.2.1 dJ6_numberOfTrailingZeros_0f7a4_77 (by decide) ?_
  refine lv_iadd B.1 B.2.1 dJ6_numberOfTrailingZeros_0f7a4_78 ?_
  refine r_tI (y := nI 2) (by decide) ?_
  exact r_eI B hC (v := nI 2) (⟨rfl, rfl⟩) dJ6_numberOfTrailingZeros_0f7a4_79
set_option maxHeartbeats 4000000 in
set_option maxRecDepth 100000 in
theorem ctJ6_ntz3 (l : Launch) (g : Gx) (lo : Nat) (ad : Nat → Nat) {F : Nat → va_E} : MI l g lo 196 ad yJ6_numberOfTrailingZeros_0f7a4 wsJ6_numberOfTrailingZeros_0f7a4 0 0 [.int (nI 8)] F (fun r F' => r = nI 3 ∧ F' = F) := by
  refine enter (cc := cJ6_numberOfTrailingZeros_0f7a4) (maxL := 2) (ret := some .int) (own := RJ6) (by decide +kernel) rfl rfl (Nat.le_of_ble_eq_true rfl) ?_
  intro pp ee ss mm below meth cc B hini hC ls hl
  have hl : lv_has ls 2 [(0, .int (nI 8))] := hl
  refine lv_iload_n B.1 B.2.1 dJ6_numberOfTrailingZeros_0f7a4_0 rfl (lv_at hl 0 rfl) ?_
  refine lv_iconst (v := (-1)) B.1 B.2.1 dJ6_numberOfTrailingZeros_0f7a4_1 (by decide) ?_
  refine lv_ixor B.1 B.2.1 dJ6_numberOfTrailingZeros_0f7a4_2 ?_
  refine r_tI (y := (-9)) (by decide) ?_
  refine lv_iload_n B.1 B.2.1 dJ6_numberOfTrailingZeros_0f7a4_3 rfl (lv_at hl 0 rfl) ?_
  refine lv_iconst (v := nI 1) B.1 B.2.1 dJ6_numberOfTrailingZeros_0f7a4_4 (by decide) ?_
  refine lv_isub B.1 B.2.1 dJ6_numberOfTrailingZeros_0f7a4_5 ?_
  refine r_tI (y := nI 7) (by decide) ?_
  refine lv_iand B.1 B.2.1 dJ6_numberOfTrailingZeros_0f7a4_6 ?_
  refine r_tI (y := nI 7) (by decide) ?_
  refine lv_istore_n (lv' := [(0, .int (nI 7))]) B.1 B.2.1 dJ6_numberOfTrailingZeros_0f7a4_7 rfl hl (by decide) rfl (fun ls hl => ?_)
  refine lv_iload_n B.1 B.2.1 dJ6_numberOfTrailingZeros_0f7a4_8 rfl (lv_at hl 0 rfl) ?_
  refine lv_if_gt (tgt := 17) B.1 B.2.1 dJ6_numberOfTrailingZeros_0f7a4_9 (by decide) (fun _ => ?_) (fun z => absurd (by decide) z)
  refine lv_iconst (v := nI 1) B.1 B.2.1 dJ6_numberOfTrailingZeros_0f7a4_17 (by decide) ?_
  refine lv_istore_n (lv' := [(1, .int (nI 1)), (0, .int (nI 7))]) B.1 B.2.1 dJ6_numberOfTrailingZeros_0f7a4_18 rfl hl (by decide) rfl (fun ls hl => ?_)
  refine lv_iload_n B.1 B.2.1 dJ6_numberOfTrailingZeros_0f7a4_19 rfl (lv_at hl 1 rfl) ?_
  refine lv_ldcw (own := RJ6) (v := nI 65536) B.1 B.2.1 B.2.2.2.1 (B.2.2.2.2.1 (.constant RJ6 264 (65536)) (by decide +kernel)) dJ6_numberOfTrailingZeros_0f7a4_20 ?_
  refine lv_icmp_le (tgt := 34) B.1 B.2.1 dJ6_numberOfTrailingZeros_0f7a4_23 (by decide) (fun _ => ?_) (fun z => absurd (by decide) z)
  refine lv_iload_n B.1 B.2.1 dJ6_numberOfTrailingZeros_0f7a4_34 rfl (lv_at hl 1 rfl) ?_
  refine lv_sipush (v := nI 256) B.1 B.2.1 dJ6_numberOfTrailingZeros_0f7a4_35 (by decide) ?_
  refine lv_icmp_le (tgt := 49) B.1 B.2.1 dJ6_numberOfTrailingZeros_0f7a4_38 (by decide) (fun _ => ?_) (fun z => absurd (by decide) z)
  refine lv_iload_n B.1 B.2.1 dJ6_numberOfTrailingZeros_0f7a4_49 rfl (lv_at hl 1 rfl) ?_
  refine lv_bipush (v := nI 16) B.1 B.2.1 dJ6_numberOfTrailingZeros_0f7a4_50 (by decide) ?_
  refine lv_icmp_le (tgt := 62) B.1 B.2.1 dJ6_numberOfTrailingZeros_0f7a4_52 (by decide) (fun _ => ?_) (fun z => absurd (by decide) z)
  refine lv_iload_n B.1 B.2.1 dJ6_numberOfTrailingZeros_0f7a4_62 rfl (lv_at hl 1 rfl) ?_
  refine lv_iconst (v := nI 4) B.1 B.2.1 dJ6_numberOfTrailingZeros_0f7a4_63 (by decide) ?_
  refine lv_icmp_le (tgt := 74) B.1 B.2.1 dJ6_numberOfTrailingZeros_0f7a4_64 (by decide) (fun z => absurd z (by decide)) (fun _ => ?_)
  refine lv_iinc (v := nI 3) (lv' := [(1, .int (nI 3)), (0, .int (nI 7))]) B.1 B.2.1 dJ6_numberOfTrailingZeros_0f7a4_67 hl (k := 0) rfl (by decide) (by decide) rfl (fun ls hl => ?_)
  refine lv_iload_n B.1 B.2.1 dJ6_numberOfTrailingZeros_0f7a4_70 rfl (lv_at hl 1 rfl) ?_
  refine lv_iconst (v := nI 2) B.1 B.2.1 dJ6_numberOfTrailingZeros_0f7a4_71 (by decide) ?_
  refine lv_iushr (v := nI 1) B.1 B.2.1 dJ6_numberOfTrailingZeros_0f7a4_72 (by decide) ?_
  refine lv_istore_n (lv' := [(0, .int (nI 1)), (1, .int (nI 3))]) B.1 B.2.1 dJ6_numberOfTrailingZeros_0f7a4_73 rfl hl (by decide) rfl (fun ls hl => ?_)
  refine lv_iload_n B.1 B.2.1 dJ6_numberOfTrailingZeros_0f7a4_74 rfl (lv_at hl 1 rfl) ?_
  refine lv_iload_n B.1 B.2.1 dJ6_numberOfTrailingZeros_0f7a4_75 rfl (lv_at hl 0 rfl) ?_
  refine lv_iconst (v := nI 1) B.1 B.2.1 dJ6_numberOfTrailingZeros_0f7a4_76 (by decide) ?_
  refine lv_iushr (v := nI 0) B.1 B.2.1 dJ6_numberOfTrailingZeros_0f7a4_77 (by decide) ?_
  refine lv_iadd B.1 B.2.1 dJ6_numberOfTrailingZeros_0f7a4_78 ?_
  refine r_tI (y := nI 3) (by decide) ?_
  exact r_eI B hC (v := nI 3) (⟨rfl, rfl⟩) dJ6_numberOfTrailingZeros_0f7a4_79
set_option maxHeartbeats 4000000 in
set_option maxRecDepth 100000 in
theorem ctJ6_ntz4 (l : Launch) (g : Gx) (lo : Nat) (ad : Nat → Nat) {F : Nat → va_E} : MI l g lo 196 ad yJ6_numberOfTrailingZeros_0f7a4 wsJ6_numberOfTrailingZeros_0f7a4 0 0 [.int (nI 16)] F (fun r F' => r = nI 4 ∧ F' = F) := by
  refine enter (cc := cJ6_numberOfTrailingZeros_0f7a4) (maxL := 2) (ret := some .int) (own := RJ6) (by decide +kernel) rfl rfl (Nat.le_of_ble_eq_true rfl) ?_
  intro pp ee ss mm below meth cc B hini hC ls hl
  have hl : lv_has ls 2 [(0, .int (nI 16))] := hl
  refine lv_iload_n B.1 B.2.1 dJ6_numberOfTrailingZeros_0f7a4_0 rfl (lv_at hl 0 rfl) ?_
  refine lv_iconst (v := (-1)) B.1 B.2.1 dJ6_numberOfTrailingZeros_0f7a4_1 (by decide) ?_
  refine lv_ixor B.1 B.2.1 dJ6_numberOfTrailingZeros_0f7a4_2 ?_
  refine r_tI (y := (-17)) (by decide) ?_
  refine lv_iload_n B.1 B.2.1 dJ6_numberOfTrailingZeros_0f7a4_3 rfl (lv_at hl 0 rfl) ?_
  refine lv_iconst (v := nI 1) B.1 B.2.1 dJ6_numberOfTrailingZeros_0f7a4_4 (by decide) ?_
  refine lv_isub B.1 B.2.1 dJ6_numberOfTrailingZeros_0f7a4_5 ?_
  refine r_tI (y := nI 15) (by decide) ?_
  refine lv_iand B.1 B.2.1 dJ6_numberOfTrailingZeros_0f7a4_6 ?_
  refine r_tI (y := nI 15) (by decide) ?_
  refine lv_istore_n (lv' := [(0, .int (nI 15))]) B.1 B.2.1 dJ6_numberOfTrailingZeros_0f7a4_7 rfl hl (by decide) rfl (fun ls hl => ?_)
  refine lv_iload_n B.1 B.2.1 dJ6_numberOfTrailingZeros_0f7a4_8 rfl (lv_at hl 0 rfl) ?_
  refine lv_if_gt (tgt := 17) B.1 B.2.1 dJ6_numberOfTrailingZeros_0f7a4_9 (by decide) (fun _ => ?_) (fun z => absurd (by decide) z)
  refine lv_iconst (v := nI 1) B.1 B.2.1 dJ6_numberOfTrailingZeros_0f7a4_17 (by decide) ?_
  refine lv_istore_n (lv' := [(1, .int (nI 1)), (0, .int (nI 15))]) B.1 B.2.1 dJ6_numberOfTrailingZeros_0f7a4_18 rfl hl (by decide) rfl (fun ls hl => ?_)
  refine lv_iload_n B.1 B.2.1 dJ6_numberOfTrailingZeros_0f7a4_19 rfl (lv_at hl 1 rfl) ?_
  refine lv_ldcw (own := RJ6) (v := nI 65536) B.1 B.2.1 B.2.2.2.1 (B.2.2.2.2.1 (.constant RJ6 264 (65536)) (by decide +kernel)) dJ6_numberOfTrailingZeros_0f7a4_20 ?_
  refine lv_icmp_le (tgt := 34) B.1 B.2.1 dJ6_numberOfTrailingZeros_0f7a4_23 (by decide) (fun _ => ?_) (fun z => absurd (by decide) z)
  refine lv_iload_n B.1 B.2.1 dJ6_numberOfTrailingZeros_0f7a4_34 rfl (lv_at hl 1 rfl) ?_
  refine lv_sipush (v := nI 256) B.1 B.2.1 dJ6_numberOfTrailingZeros_0f7a4_35 (by decide) ?_
  refine lv_icmp_le (tgt := 49) B.1 B.2.1 dJ6_numberOfTrailingZeros_0f7a4_38 (by decide) (fun _ => ?_) (fun z => absurd (by decide) z)
  refine lv_iload_n B.1 B.2.1 dJ6_numberOfTrailingZeros_0f7a4_49 rfl (lv_at hl 1 rfl) ?_
  refine lv_bipush (v := nI 16) B.1 B.2.1 dJ6_numberOfTrailingZeros_0f7a4_50 (by decide) ?_
  refine lv_icmp_le (tgt := 62) B.1 B.2.1 dJ6_numberOfTrailingZeros_0f7a4_52 (by decide) (fun _ => ?_) (fun z => absurd (by decide) z)
  refine lv_iload_n B.1 B.2.1 dJ6_numberOfTrailingZeros_0f7a4_62 rfl (lv_at hl 1 rfl) ?_
  refine lv_iconst (v := nI 4) B.1 B.2.1 dJ6_numberOfTrailingZeros_0f7a4_63 (by decide) ?_
  refine lv_icmp_le (tgt := 74) B.1 B.2.1 dJ6_numberOfTrailingZeros_0f7a4_64 (by decide) (fun z => absurd z (by decide)) (fun _ => ?_)
  refine lv_iinc (v := nI 3) (lv' := [(1, .int (nI 3)), (0, .int (nI 15))]) B.1 B.2.1 dJ6_numberOfTrailingZeros_0f7a4_67 hl (k := 0) rfl (by decide) (by decide) rfl (fun ls hl => ?_)
  refine lv_iload_n B.1 B.2.1 dJ6_numberOfTrailingZeros_0f7a4_70 rfl (lv_at hl 1 rfl) ?_
  refine lv_iconst (v := nI 2) B.1 B.2.1 dJ6_numberOfTrailingZeros_0f7a4_71 (by decide) ?_
  refine lv_iushr (v := nI 3) B.1 B.2.1 dJ6_numberOfTrailingZeros_0f7a4_72 (by decide) ?_
  refine lv_istore_n (lv' := [(0, .int (nI 3)), (1, .int (nI 3))]) B.1 B.2.1 dJ6_numberOfTrailingZeros_0f7a4_73 rfl hl (by decide) rfl (fun ls hl => ?_)
  refine lv_iload_n B.1 B.2.1 dJ6_numberOfTrailingZeros_0f7a4_74 rfl (lv_at hl 1 rfl) ?_
  refine lv_iload_n B.1 B.2.1 dJ6_numberOfTrailingZeros_0f7a4_75 rfl (lv_at hl 0 rfl) ?_
  refine lv_iconst (v := nI 1) B.1 B.2.1 dJ6_numberOfTrailingZeros_0f7a4_76 (by decide) ?_
  refine lv_iushr (v := nI 1) B.1 B.2.1 dJ6_numberOfTrailingZeros_0f7a4_77 (by decide) ?_
  refine lv_iadd B.1 B.2.1 dJ6_numberOfTrailingZeros_0f7a4_78 ?_
  refine r_tI (y := nI 4) (by decide) ?_
  exact r_eI B hC (v := nI 4) (⟨rfl, rfl⟩) dJ6_numberOfTrailingZeros_0f7a4_79
set_option maxHeartbeats 4000000 in
set_option maxRecDepth 100000 in
theorem ctJ6_ntz5 (l : Launch) (g : Gx) (lo : Nat) (ad : Nat → Nat) {F : Nat → va_E} : MI l g lo 196 ad yJ6_numberOfTrailingZeros_0f7a4 wsJ6_numberOfTrailingZeros_0f7a4 0 0 [.int (nI 32)] F (fun r F' => r = nI 5 ∧ F' = F) := by
  refine enter (cc := cJ6_numberOfTrailingZeros_0f7a4) (maxL := 2) (ret := some .int) (own := RJ6) (by decide +kernel) rfl rfl (Nat.le_of_ble_eq_true rfl) ?_
  intro pp ee ss mm below meth cc B hini hC ls hl
  have hl : lv_has ls 2 [(0, .int (nI 32))] := hl
  refine lv_iload_n B.1 B.2.1 dJ6_numberOfTrailingZeros_0f7a4_0 rfl (lv_at hl 0 rfl) ?_
  refine lv_iconst (v := (-1)) B.1 B.2.1 dJ6_numberOfTrailingZeros_0f7a4_1 (by decide) ?_
  refine lv_ixor B.1 B.2.1 dJ6_numberOfTrailingZeros_0f7a4_2 ?_
  refine r_tI (y := (-33)) (by decide) ?_
  refine lv_iload_n B.1 B.2.1 dJ6_numberOfTrailingZeros_0f7a4_3 rfl (lv_at hl 0 rfl) ?_
  refine lv_iconst (v := nI 1) B.1 B.2.1 dJ6_numberOfTrailingZeros_0f7a4_4 (by decide) ?_
  refine lv_isub B.1 B.2.1 dJ6_numberOfTrailingZeros_0f7a4_5 ?_
  refine r_tI (y := nI 31) (by decide) ?_
  refine lv_iand B.1 B.2.1 dJ6_numberOfTrailingZeros_0f7a4_6 ?_
  refine r_tI (y := nI 31) (by decide) ?_
  refine lv_istore_n (lv' := [(0, .int (nI 31))]) B.1 B.2.1 dJ6_numberOfTrailingZeros_0f7a4_7 rfl hl (by decide) rfl (fun ls hl => ?_)
  refine lv_iload_n B.1 B.2.1 dJ6_numberOfTrailingZeros_0f7a4_8 rfl (lv_at hl 0 rfl) ?_
  refine lv_if_gt (tgt := 17) B.1 B.2.1 dJ6_numberOfTrailingZeros_0f7a4_9 (by decide) (fun _ => ?_) (fun z => absurd (by decide) z)
  refine lv_iconst (v := nI 1) B.1 B.2.1 dJ6_numberOfTrailingZeros_0f7a4_17 (by decide) ?_
  refine lv_istore_n (lv' := [(1, .int (nI 1)), (0, .int (nI 31))]) B.1 B.2.1 dJ6_numberOfTrailingZeros_0f7a4_18 rfl hl (by decide) rfl (fun ls hl => ?_)
  refine lv_iload_n B.1 B.2.1 dJ6_numberOfTrailingZeros_0f7a4_19 rfl (lv_at hl 1 rfl) ?_
  refine lv_ldcw (own := RJ6) (v := nI 65536) B.1 B.2.1 B.2.2.2.1 (B.2.2.2.2.1 (.constant RJ6 264 (65536)) (by decide +kernel)) dJ6_numberOfTrailingZeros_0f7a4_20 ?_
  refine lv_icmp_le (tgt := 34) B.1 B.2.1 dJ6_numberOfTrailingZeros_0f7a4_23 (by decide) (fun _ => ?_) (fun z => absurd (by decide) z)
  refine lv_iload_n B.1 B.2.1 dJ6_numberOfTrailingZeros_0f7a4_34 rfl (lv_at hl 1 rfl) ?_
  refine lv_sipush (v := nI 256) B.1 B.2.1 dJ6_numberOfTrailingZeros_0f7a4_35 (by decide) ?_
  refine lv_icmp_le (tgt := 49) B.1 B.2.1 dJ6_numberOfTrailingZeros_0f7a4_38 (by decide) (fun _ => ?_) (fun z => absurd (by decide) z)
  refine lv_iload_n B.1 B.2.1 dJ6_numberOfTrailingZeros_0f7a4_49 rfl (lv_at hl 1 rfl) ?_
  refine lv_bipush (v := nI 16) B.1 B.2.1 dJ6_numberOfTrailingZeros_0f7a4_50 (by decide) ?_
  refine lv_icmp_le (tgt := 62) B.1 B.2.1 dJ6_numberOfTrailingZeros_0f7a4_52 (by decide) (fun z => absurd z (by decide)) (fun _ => ?_)
  refine lv_iinc (v := nI 5) (lv' := [(1, .int (nI 5)), (0, .int (nI 31))]) B.1 B.2.1 dJ6_numberOfTrailingZeros_0f7a4_55 hl (k := 0) rfl (by decide) (by decide) rfl (fun ls hl => ?_)
  refine lv_iload_n B.1 B.2.1 dJ6_numberOfTrailingZeros_0f7a4_58 rfl (lv_at hl 1 rfl) ?_
  refine lv_iconst (v := nI 4) B.1 B.2.1 dJ6_numberOfTrailingZeros_0f7a4_59 (by decide) ?_
  refine lv_iushr (v := nI 1) B.1 B.2.1 dJ6_numberOfTrailingZeros_0f7a4_60 (by decide) ?_
  refine lv_istore_n (lv' := [(0, .int (nI 1)), (1, .int (nI 5))]) B.1 B.2.1 dJ6_numberOfTrailingZeros_0f7a4_61 rfl hl (by decide) rfl (fun ls hl => ?_)
  refine lv_iload_n B.1 B.2.1 dJ6_numberOfTrailingZeros_0f7a4_62 rfl (lv_at hl 0 rfl) ?_
  refine lv_iconst (v := nI 4) B.1 B.2.1 dJ6_numberOfTrailingZeros_0f7a4_63 (by decide) ?_
  refine lv_icmp_le (tgt := 74) B.1 B.2.1 dJ6_numberOfTrailingZeros_0f7a4_64 (by decide) (fun _ => ?_) (fun z => absurd (by decide) z)
  refine lv_iload_n B.1 B.2.1 dJ6_numberOfTrailingZeros_0f7a4_74 rfl (lv_at hl 1 rfl) ?_
  refine lv_iload_n B.1 B.2.1 dJ6_numberOfTrailingZeros_0f7a4_75 rfl (lv_at hl 0 rfl) ?_
  refine lv_iconst (v := nI 1) B.1 B.2.1 dJ6_numberOfTrailingZeros_0f7a4_76 (by decide) ?_
  refine lv_iushr (v := nI 0) B.1 B.2.1 dJ6_numberOfTrailingZeros_0f7a4_77 (by decide) ?_
  refine lv_iadd B.1 B.2.1 dJ6_numberOfTrailingZeros_0f7a4_78 ?_
  refine r_tI (y := nI 5) (by decide) ?_
  exact r_eI B hC (v := nI 5) (⟨rfl, rfl⟩) dJ6_numberOfTrailingZeros_0f7a4_79
set_option maxHeartbeats 4000000 in
set_option maxRecDepth 100000 in
theorem ctJ6_ntz6 (l : Launch) (g : Gx) (lo : Nat) (ad : Nat → Nat) {F : Nat → va_E} : MI l g lo 196 ad yJ6_numberOfTrailingZeros_0f7a4 wsJ6_numberOfTrailingZeros_0f7a4 0 0 [.int (nI 64)] F (fun r F' => r = nI 6 ∧ F' = F) := by
  refine enter (cc := cJ6_numberOfTrailingZeros_0f7a4) (maxL := 2) (ret := some .int) (own := RJ6) (by decide +kernel) rfl rfl (Nat.le_of_ble_eq_true rfl) ?_
  intro pp ee ss mm below meth cc B hini hC ls hl
  have hl : lv_has ls 2 [(0, .int (nI 64))] := hl
  refine lv_iload_n B.1 B.2.1 dJ6_numberOfTrailingZeros_0f7a4_0 rfl (lv_at hl 0 rfl) ?_
  refine lv_iconst (v := (-1)) B.1 B.2.1 dJ6_numberOfTrailingZeros_0f7a4_1 (by decide) ?_
  refine lv_ixor B.1 B.2.1 dJ6_numberOfTrailingZeros_0f7a4_2 ?_
  refine r_tI (y := (-65)) (by decide) ?_
  refine lv_iload_n B.1 B.2.1 dJ6_numberOfTrailingZeros_0f7a4_3 rfl (lv_at hl 0 rfl) ?_
  refine lv_iconst (v := nI 1) B.1 B.2.1 dJ6_numberOfTrailingZeros_0f7a4_4 (by decide) ?_
  refine lv_isub B.1 B.2.1 dJ6_numberOfTrailingZeros_0f7a4_5 ?_
  refine r_tI (y := nI 63) (by decide) ?_
  refine lv_iand B.1 B.2.1 dJ6_numberOfTrailingZeros_0f7a4_6 ?_
  refine r_tI (y := nI 63) (by decide) ?_
  refine lv_istore_n (lv' := [(0, .int (nI 63))]) B.1 B.2.1 dJ6_numberOfTrailingZeros_0f7a4_7 rfl hl (by decide) rfl (fun ls hl => ?_)
  refine lv_iload_n B.1 B.2.1 dJ6_numberOfTrailingZeros_0f7a4_8 rfl (lv_at hl 0 rfl) ?_
  refine lv_if_gt (tgt := 17) B.1 B.2.1 dJ6_numberOfTrailingZeros_0f7a4_9 (by decide) (fun _ => ?_) (fun z => absurd (by decide) z)
  refine lv_iconst (v := nI 1) B.1 B.2.1 dJ6_numberOfTrailingZeros_0f7a4_17 (by decide) ?_
  refine lv_istore_n (lv' := [(1, .int (nI 1)), (0, .int (nI 63))]) B.1 B.2.1 dJ6_numberOfTrailingZeros_0f7a4_18 rfl hl (by decide) rfl (fun ls hl => ?_)
  refine lv_iload_n B.1 B.2.1 dJ6_numberOfTrailingZeros_0f7a4_19 rfl (lv_at hl 1 rfl) ?_
  refine lv_ldcw (own := RJ6) (v := nI 65536) B.1 B.2.1 B.2.2.2.1 (B.2.2.2.2.1 (.constant RJ6 264 (65536)) (by decide +kernel)) dJ6_numberOfTrailingZeros_0f7a4_20 ?_
  refine lv_icmp_le (tgt := 34) B.1 B.2.1 dJ6_numberOfTrailingZeros_0f7a4_23 (by decide) (fun _ => ?_) (fun z => absurd (by decide) z)
  refine lv_iload_n B.1 B.2.1 dJ6_numberOfTrailingZeros_0f7a4_34 rfl (lv_at hl 1 rfl) ?_
  refine lv_sipush (v := nI 256) B.1 B.2.1 dJ6_numberOfTrailingZeros_0f7a4_35 (by decide) ?_
  refine lv_icmp_le (tgt := 49) B.1 B.2.1 dJ6_numberOfTrailingZeros_0f7a4_38 (by decide) (fun _ => ?_) (fun z => absurd (by decide) z)
  refine lv_iload_n B.1 B.2.1 dJ6_numberOfTrailingZeros_0f7a4_49 rfl (lv_at hl 1 rfl) ?_
  refine lv_bipush (v := nI 16) B.1 B.2.1 dJ6_numberOfTrailingZeros_0f7a4_50 (by decide) ?_
  refine lv_icmp_le (tgt := 62) B.1 B.2.1 dJ6_numberOfTrailingZeros_0f7a4_52 (by decide) (fun z => absurd z (by decide)) (fun _ => ?_)
  refine lv_iinc (v := nI 5) (lv' := [(1, .int (nI 5)), (0, .int (nI 63))]) B.1 B.2.1 dJ6_numberOfTrailingZeros_0f7a4_55 hl (k := 0) rfl (by decide) (by decide) rfl (fun ls hl => ?_)
  refine lv_iload_n B.1 B.2.1 dJ6_numberOfTrailingZeros_0f7a4_58 rfl (lv_at hl 1 rfl) ?_
  refine lv_iconst (v := nI 4) B.1 B.2.1 dJ6_numberOfTrailingZeros_0f7a4_59 (by decide) ?_
  refine lv_iushr (v := nI 3) B.1 B.2.1 dJ6_numberOfTrailingZeros_0f7a4_60 (by decide) ?_
  refine lv_istore_n (lv' := [(0, .int (nI 3)), (1, .int (nI 5))]) B.1 B.2.1 dJ6_numberOfTrailingZeros_0f7a4_61 rfl hl (by decide) rfl (fun ls hl => ?_)
  refine lv_iload_n B.1 B.2.1 dJ6_numberOfTrailingZeros_0f7a4_62 rfl (lv_at hl 0 rfl) ?_
  refine lv_iconst (v := nI 4) B.1 B.2.1 dJ6_numberOfTrailingZeros_0f7a4_63 (by decide) ?_
  refine lv_icmp_le (tgt := 74) B.1 B.2.1 dJ6_numberOfTrailingZeros_0f7a4_64 (by decide) (fun _ => ?_) (fun z => absurd (by decide) z)
  refine lv_iload_n B.1 B.2.1 dJ6_numberOfTrailingZeros_0f7a4_74 rfl (lv_at hl 1 rfl) ?_
  refine lv_iload_n B.1 B.2.1 dJ6_numberOfTrailingZeros_0f7a4_75 rfl (lv_at hl 0 rfl) ?_
  refine lv_iconst (v := nI 1) B.1 B.2.1 dJ6_numberOfTrailingZeros_0f7a4_76 (by decide) ?_
  refine lv_iushr (v := nI 1) B.1 B.2.1 dJ6_numberOfTrailingZeros_0f7a4_77 (by decide) ?_
  refine lv_iadd B.1 B.2.1 dJ6_numberOfTrailingZeros_0f7a4_78 ?_
  refine r_tI (y := nI 6) (by decide) ?_
  exact r_eI B hC (v := nI 6) (⟨rfl, rfl⟩) dJ6_numberOfTrailingZeros_0f7a4_79
set_option maxHeartbeats 4000000 in
set_option maxRecDepth 100000 in
theorem ctJ6_ntz7 (l : Launch) (g : Gx) (lo : Nat) (ad : Nat → Nat) {F : Nat → va_E} : MI l g lo 196 ad yJ6_numberOfTrailingZeros_0f7a4 wsJ6_numberOfTrailingZeros_0f7a4 0 0 [.int (nI 128)] F (fun r F' => r = nI 7 ∧ F' = F) := by
  refine enter (cc := cJ6_numberOfTrailingZeros_0f7a4) (maxL := 2) (ret := some .int) (own := RJ6) (by decide +kernel) rfl rfl (Nat.le_of_ble_eq_true rfl) ?_
  intro pp ee ss mm below meth cc B hini hC ls hl
  have hl : lv_has ls 2 [(0, .int (nI 128))] := hl
  refine lv_iload_n B.1 B.2.1 dJ6_numberOfTrailingZeros_0f7a4_0 rfl (lv_at hl 0 rfl) ?_
  refine lv_iconst (v := (-1)) B.1 B.2.1 dJ6_numberOfTrailingZeros_0f7a4_1 (by decide) ?_
  refine lv_ixor B.1 B.2.1 dJ6_numberOfTrailingZeros_0f7a4_2 ?_
  refine r_tI (y := (-129)) (by decide) ?_
  refine lv_iload_n B.1 B.2.1 dJ6_numberOfTrailingZeros_0f7a4_3 rfl (lv_at hl 0 rfl) ?_
  refine lv_iconst (v := nI 1) B.1 B.2.1 dJ6_numberOfTrailingZeros_0f7a4_4 (by decide) ?_
  refine lv_isub B.1 B.2.1 dJ6_numberOfTrailingZeros_0f7a4_5 ?_
  refine r_tI (y := nI 127) (by decide) ?_
  refine lv_iand B.1 B.2.1 dJ6_numberOfTrailingZeros_0f7a4_6 ?_
  refine r_tI (y := nI 127) (by decide) ?_
  refine lv_istore_n (lv' := [(0, .int (nI 127))]) B.1 B.2.1 dJ6_numberOfTrailingZeros_0f7a4_7 rfl hl (by decide) rfl (fun ls hl => ?_)
  refine lv_iload_n B.1 B.2.1 dJ6_numberOfTrailingZeros_0f7a4_8 rfl (lv_at hl 0 rfl) ?_
  refine lv_if_gt (tgt := 17) B.1 B.2.1 dJ6_numberOfTrailingZeros_0f7a4_9 (by decide) (fun _ => ?_) (fun z => absurd (by decide) z)
  refine lv_iconst (v := nI 1) B.1 B.2.1 dJ6_numberOfTrailingZeros_0f7a4_17 (by decide) ?_
  refine lv_istore_n (lv' := [(1, .int (nI 1)), (0, .int (nI 127))]) B.1 B.2.1 dJ6_numberOfTrailingZeros_0f7a4_18 rfl hl (by decide) rfl (fun ls hl => ?_)
  refine lv_iload_n B.1 B.2.1 dJ6_numberOfTrailingZeros_0f7a4_19 rfl (lv_at hl 1 rfl) ?_
  refine lv_ldcw (own := RJ6) (v := nI 65536) B.1 B.2.1 B.2.2.2.1 (B.2.2.2.2.1 (.constant RJ6 264 (65536)) (by decide +kernel)) dJ6_numberOfTrailingZeros_0f7a4_20 ?_
  refine lv_icmp_le (tgt := 34) B.1 B.2.1 dJ6_numberOfTrailingZeros_0f7a4_23 (by decide) (fun _ => ?_) (fun z => absurd (by decide) z)
  refine lv_iload_n B.1 B.2.1 dJ6_numberOfTrailingZeros_0f7a4_34 rfl (lv_at hl 1 rfl) ?_
  refine lv_sipush (v := nI 256) B.1 B.2.1 dJ6_numberOfTrailingZeros_0f7a4_35 (by decide) ?_
  refine lv_icmp_le (tgt := 49) B.1 B.2.1 dJ6_numberOfTrailingZeros_0f7a4_38 (by decide) (fun _ => ?_) (fun z => absurd (by decide) z)
  refine lv_iload_n B.1 B.2.1 dJ6_numberOfTrailingZeros_0f7a4_49 rfl (lv_at hl 1 rfl) ?_
  refine lv_bipush (v := nI 16) B.1 B.2.1 dJ6_numberOfTrailingZeros_0f7a4_50 (by decide) ?_
  refine lv_icmp_le (tgt := 62) B.1 B.2.1 dJ6_numberOfTrailingZeros_0f7a4_52 (by decide) (fun z => absurd z (by decide)) (fun _ => ?_)
  refine lv_iinc (v := nI 5) (lv' := [(1, .int (nI 5)), (0, .int (nI 127))]) B.1 B.2.1 dJ6_numberOfTrailingZeros_0f7a4_55 hl (k := 0) rfl (by decide) (by decide) rfl (fun ls hl => ?_)
  refine lv_iload_n B.1 B.2.1 dJ6_numberOfTrailingZeros_0f7a4_58 rfl (lv_at hl 1 rfl) ?_
  refine lv_iconst (v := nI 4) B.1 B.2.1 dJ6_numberOfTrailingZeros_0f7a4_59 (by decide) ?_
  refine lv_iushr (v := nI 7) B.1 B.2.1 dJ6_numberOfTrailingZeros_0f7a4_60 (by decide) ?_
  refine lv_istore_n (lv' := [(0, .int (nI 7)), (1, .int (nI 5))]) B.1 B.2.1 dJ6_numberOfTrailingZeros_0f7a4_61 rfl hl (by decide) rfl (fun ls hl => ?_)
  refine lv_iload_n B.1 B.2.1 dJ6_numberOfTrailingZeros_0f7a4_62 rfl (lv_at hl 0 rfl) ?_
  refine lv_iconst (v := nI 4) B.1 B.2.1 dJ6_numberOfTrailingZeros_0f7a4_63 (by decide) ?_
  refine lv_icmp_le (tgt := 74) B.1 B.2.1 dJ6_numberOfTrailingZeros_0f7a4_64 (by decide) (fun z => absurd z (by decide)) (fun _ => ?_)
  refine lv_iinc (v := nI 7) (lv' := [(1, .int (nI 7)), (0, .int (nI 7))]) B.1 B.2.1 dJ6_numberOfTrailingZeros_0f7a4_67 hl (k := 1) rfl (by decide) (by decide) rfl (fun ls hl => ?_)
  refine lv_iload_n B.1 B.2.1 dJ6_numberOfTrailingZeros_0f7a4_70 rfl (lv_at hl 1 rfl) ?_
  refine lv_iconst (v := nI 2) B.1 B.2.1 dJ6_numberOfTrailingZeros_0f7a4_71 (by decide) ?_
  refine lv_iushr (v := nI 1) B.1 B.2.1 dJ6_numberOfTrailingZeros_0f7a4_72 (by decide) ?_
  refine lv_istore_n (lv' := [(0, .int (nI 1)), (1, .int (nI 7))]) B.1 B.2.1 dJ6_numberOfTrailingZeros_0f7a4_73 rfl hl (by decide) rfl (fun ls hl => ?_)
  refine lv_iload_n B.1 B.2.1 dJ6_numberOfTrailingZeros_0f7a4_74 rfl (lv_at hl 1 rfl) ?_
  refine lv_iload_n B.1 B.2.1 dJ6_numberOfTrailingZeros_0f7a4_75 rfl (lv_at hl 0 rfl) ?_
  refine lv_iconst (v := nI 1) B.1 B.2.1 dJ6_numberOfTrailingZeros_0f7a4_76 (by decide) ?_
  refine lv_iushr (v := nI 0) B.1 B.2.1 dJ6_numberOfTrailingZeros_0f7a4_77 (by decide) ?_
  refine lv_iadd B.1 B.2.1 dJ6_numberOfTrailingZeros_0f7a4_78 ?_
  refine r_tI (y := nI 7) (by decide) ?_
  exact r_eI B hC (v := nI 7) (⟨rfl, rfl⟩) dJ6_numberOfTrailingZeros_0f7a4_79
set_option maxHeartbeats 4000000 in
set_option maxRecDepth 100000 in
theorem ctJ6_ntz8 (l : Launch) (g : Gx) (lo : Nat) (ad : Nat → Nat) {F : Nat → va_E} : MI l g lo 196 ad yJ6_numberOfTrailingZeros_0f7a4 wsJ6_numberOfTrailingZeros_0f7a4 0 0 [.int (nI 256)] F (fun r F' => r = nI 8 ∧ F' = F) := by
  refine enter (cc := cJ6_numberOfTrailingZeros_0f7a4) (maxL := 2) (ret := some .int) (own := RJ6) (by decide +kernel) rfl rfl (Nat.le_of_ble_eq_true rfl) ?_
  intro pp ee ss mm below meth cc B hini hC ls hl
  have hl : lv_has ls 2 [(0, .int (nI 256))] := hl
  refine lv_iload_n B.1 B.2.1 dJ6_numberOfTrailingZeros_0f7a4_0 rfl (lv_at hl 0 rfl) ?_
  refine lv_iconst (v := (-1)) B.1 B.2.1 dJ6_numberOfTrailingZeros_0f7a4_1 (by decide) ?_
  refine lv_ixor B.1 B.2.1 dJ6_numberOfTrailingZeros_0f7a4_2 ?_
  refine r_tI (y := (-257)) (by decide) ?_
  refine lv_iload_n B.1 B.2.1 dJ6_numberOfTrailingZeros_0f7a4_3 rfl (lv_at hl 0 rfl) ?_
  refine lv_iconst (v := nI 1) B.1 B.2.1 dJ6_numberOfTrailingZeros_0f7a4_4 (by decide) ?_
  refine lv_isub B.1 B.2.1 dJ6_numberOfTrailingZeros_0f7a4_5 ?_
  refine r_tI (y := nI 255) (by decide) ?_
  refine lv_iand B.1 B.2.1 dJ6_numberOfTrailingZeros_0f7a4_6 ?_
  refine r_tI (y := nI 255) (by decide) ?_
  refine lv_istore_n (lv' := [(0, .int (nI 255))]) B.1 B.2.1 dJ6_numberOfTrailingZeros_0f7a4_7 rfl hl (by decide) rfl (fun ls hl => ?_)
  refine lv_iload_n B.1 B.2.1 dJ6_numberOfTrailingZeros_0f7a4_8 rfl (lv_at hl 0 rfl) ?_
  refine lv_if_gt (tgt := 17) B.1 B.2.1 dJ6_numberOfTrailingZeros_0f7a4_9 (by decide) (fun _ => ?_) (fun z => absurd (by decide) z)
  refine lv_iconst (v := nI 1) B.1 B.2.1 dJ6_numberOfTrailingZeros_0f7a4_17 (by decide) ?_
  refine lv_istore_n (lv' := [(1, .int (nI 1)), (0, .int (nI 255))]) B.1 B.2.1 dJ6_numberOfTrailingZeros_0f7a4_18 rfl hl (by decide) rfl (fun ls hl => ?_)
  refine lv_iload_n B.1 B.2.1 dJ6_numberOfTrailingZeros_0f7a4_19 rfl (lv_at hl 1 rfl) ?_
  refine lv_ldcw (own := RJ6) (v := nI 65536) B.1 B.2.1 B.2.2.2.1 (B.2.2.2.2.1 (.constant RJ6 264 (65536)) (by decide +kernel)) dJ6_numberOfTrailingZeros_0f7a4_20 ?_
  refine lv_icmp_le (tgt := 34) B.1 B.2.1 dJ6_numberOfTrailingZeros_0f7a4_23 (by decide) (fun _ => ?_) (fun z => absurd (by decide) z)
  refine lv_iload_n B.1 B.2.1 dJ6_numberOfTrailingZeros_0f7a4_34 rfl (lv_at hl 1 rfl) ?_
  refine lv_sipush (v := nI 256) B.1 B.2.1 dJ6_numberOfTrailingZeros_0f7a4_35 (by decide) ?_
  refine lv_icmp_le (tgt := 49) B.1 B.2.1 dJ6_numberOfTrailingZeros_0f7a4_38 (by decide) (fun _ => ?_) (fun z => absurd (by decide) z)
  refine lv_iload_n B.1 B.2.1 dJ6_numberOfTrailingZeros_0f7a4_49 rfl (lv_at hl 1 rfl) ?_
  refine lv_bipush (v := nI 16) B.1 B.2.1 dJ6_numberOfTrailingZeros_0f7a4_50 (by decide) ?_
  refine lv_icmp_le (tgt := 62) B.1 B.2.1 dJ6_numberOfTrailingZeros_0f7a4_52 (by decide) (fun z => absurd z (by decide)) (fun _ => ?_)
  refine lv_iinc (v := nI 5) (lv' := [(1, .int (nI 5)), (0, .int (nI 255))]) B.1 B.2.1 dJ6_numberOfTrailingZeros_0f7a4_55 hl (k := 0) rfl (by decide) (by decide) rfl (fun ls hl => ?_)
  refine lv_iload_n B.1 B.2.1 dJ6_numberOfTrailingZeros_0f7a4_58 rfl (lv_at hl 1 rfl) ?_
  refine lv_iconst (v := nI 4) B.1 B.2.1 dJ6_numberOfTrailingZeros_0f7a4_59 (by decide) ?_
  refine lv_iushr (v := nI 15) B.1 B.2.1 dJ6_numberOfTrailingZeros_0f7a4_60 (by decide) ?_
  refine lv_istore_n (lv' := [(0, .int (nI 15)), (1, .int (nI 5))]) B.1 B.2.1 dJ6_numberOfTrailingZeros_0f7a4_61 rfl hl (by decide) rfl (fun ls hl => ?_)
  refine lv_iload_n B.1 B.2.1 dJ6_numberOfTrailingZeros_0f7a4_62 rfl (lv_at hl 0 rfl) ?_
  refine lv_iconst (v := nI 4) B.1 B.2.1 dJ6_numberOfTrailingZeros_0f7a4_63 (by decide) ?_
  refine lv_icmp_le (tgt := 74) B.1 B.2.1 dJ6_numberOfTrailingZeros_0f7a4_64 (by decide) (fun z => absurd z (by decide)) (fun _ => ?_)
  refine lv_iinc (v := nI 7) (lv' := [(1, .int (nI 7)), (0, .int (nI 15))]) B.1 B.2.1 dJ6_numberOfTrailingZeros_0f7a4_67 hl (k := 1) rfl (by decide) (by decide) rfl (fun ls hl => ?_)
  refine lv_iload_n B.1 B.2.1 dJ6_numberOfTrailingZeros_0f7a4_70 rfl (lv_at hl 1 rfl) ?_
  refine lv_iconst (v := nI 2) B.1 B.2.1 dJ6_numberOfTrailingZeros_0f7a4_71 (by decide) ?_
  refine lv_iushr (v := nI 3) B.1 B.2.1 dJ6_numberOfTrailingZeros_0f7a4_72 (by decide) ?_
  refine lv_istore_n (lv' := [(0, .int (nI 3)), (1, .int (nI 7))]) B.1 B.2.1 dJ6_numberOfTrailingZeros_0f7a4_73 rfl hl (by decide) rfl (fun ls hl => ?_)
  refine lv_iload_n B.1 B.2.1 dJ6_numberOfTrailingZeros_0f7a4_74 rfl (lv_at hl 1 rfl) ?_
  refine lv_iload_n B.1 B.2.1 dJ6_numberOfTrailingZeros_0f7a4_75 rfl (lv_at hl 0 rfl) ?_
  refine lv_iconst (v := nI 1) B.1 B.2.1 dJ6_numberOfTrailingZeros_0f7a4_76 (by decide) ?_
  refine lv_iushr (v := nI 1) B.1 B.2.1 dJ6_numberOfTrailingZeros_0f7a4_77 (by decide) ?_
  refine lv_iadd B.1 B.2.1 dJ6_numberOfTrailingZeros_0f7a4_78 ?_
  refine r_tI (y := nI 8) (by decide) ?_
  exact r_eI B hC (v := nI 8) (⟨rfl, rfl⟩) dJ6_numberOfTrailingZeros_0f7a4_79
set_option maxHeartbeats 4000000 in
set_option maxRecDepth 100000 in
theorem ctJ6_ntz9 (l : Launch) (g : Gx) (lo : Nat) (ad : Nat → Nat) {F : Nat → va_E} : MI l g lo 196 ad yJ6_numberOfTrailingZeros_0f7a4 wsJ6_numberOfTrailingZeros_0f7a4 0 0 [.int (nI 512)] F (fun r F' => r = nI 9 ∧ F' = F) := by
  refine enter (cc := cJ6_numberOfTrailingZeros_0f7a4) (maxL := 2) (ret := some .int) (own := RJ6) (by decide +kernel) rfl rfl (Nat.le_of_ble_eq_true rfl) ?_
  intro pp ee ss mm below meth cc B hini hC ls hl
  have hl : lv_has ls 2 [(0, .int (nI 512))] := hl
  refine lv_iload_n B.1 B.2.1 dJ6_numberOfTrailingZeros_0f7a4_0 rfl (lv_at hl 0 rfl) ?_
  refine lv_iconst (v := (-1)) B.1 B.2.1 dJ6_numberOfTrailingZeros_0f7a4_1 (by decide) ?_
  refine lv_ixor B.1 B.2.1 dJ6_numberOfTrailingZeros_0f7a4_2 ?_
  refine r_tI (y := (-513)) (by decide) ?_
  refine lv_iload_n B.1 B.2.1 dJ6_numberOfTrailingZeros_0f7a4_3 rfl (lv_at hl 0 rfl) ?_
  refine lv_iconst (v := nI 1) B.1 B.2.1 dJ6_numberOfTrailingZeros_0f7a4_4 (by decide) ?_
  refine lv_isub B.1 B.2.1 dJ6_numberOfTrailingZeros_0f7a4_5 ?_
  refine r_tI (y := nI 511) (by decide) ?_
  refine lv_iand B.1 B.2.1 dJ6_numberOfTrailingZeros_0f7a4_6 ?_
  refine r_tI (y := nI 511) (by decide) ?_
  refine lv_istore_n (lv' := [(0, .int (nI 511))]) B.1 B.2.1 dJ6_numberOfTrailingZeros_0f7a4_7 rfl hl (by decide) rfl (fun ls hl => ?_)
  refine lv_iload_n B.1 B.2.1 dJ6_numberOfTrailingZeros_0f7a4_8 rfl (lv_at hl 0 rfl) ?_
  refine lv_if_gt (tgt := 17) B.1 B.2.1 dJ6_numberOfTrailingZeros_0f7a4_9 (by decide) (fun _ => ?_) (fun z => absurd (by decide) z)
  refine lv_iconst (v := nI 1) B.1 B.2.1 dJ6_numberOfTrailingZeros_0f7a4_17 (by decide) ?_
  refine lv_istore_n (lv' := [(1, .int (nI 1)), (0, .int (nI 511))]) B.1 B.2.1 dJ6_numberOfTrailingZeros_0f7a4_18 rfl hl (by decide) rfl (fun ls hl => ?_)
  refine lv_iload_n B.1 B.2.1 dJ6_numberOfTrailingZeros_0f7a4_19 rfl (lv_at hl 1 rfl) ?_
  refine lv_ldcw (own := RJ6) (v := nI 65536) B.1 B.2.1 B.2.2.2.1 (B.2.2.2.2.1 (.constant RJ6 264 (65536)) (by decide +kernel)) dJ6_numberOfTrailingZeros_0f7a4_20 ?_
  refine lv_icmp_le (tgt := 34) B.1 B.2.1 dJ6_numberOfTrailingZeros_0f7a4_23 (by decide) (fun _ => ?_) (fun z => absurd (by decide) z)
  refine lv_iload_n B.1 B.2.1 dJ6_numberOfTrailingZeros_0f7a4_34 rfl (lv_at hl 1 rfl) ?_
  refine lv_sipush (v := nI 256) B.1 B.2.1 dJ6_numberOfTrailingZeros_0f7a4_35 (by decide) ?_
  refine lv_icmp_le (tgt := 49) B.1 B.2.1 dJ6_numberOfTrailingZeros_0f7a4_38 (by decide) (fun z => absurd z (by decide)) (fun _ => ?_)
  refine lv_iinc (v := nI 9) (lv' := [(1, .int (nI 9)), (0, .int (nI 511))]) B.1 B.2.1 dJ6_numberOfTrailingZeros_0f7a4_41 hl (k := 0) rfl (by decide) (by decide) rfl (fun ls hl => ?_)
  refine lv_iload_n B.1 B.2.1 dJ6_numberOfTrailingZeros_0f7a4_44 rfl (lv_at hl 1 rfl) ?_
  refine lv_bipush (v := nI 8) B.1 B.2.1 dJ6_numberOfTrailingZeros_0f7a4_45 (by decide) ?_
  refine lv_iushr (v := nI 1) B.1 B.2.1 dJ6_numberOfTrailingZeros_0f7a4_47 (by decide) ?_
  refine lv_istore_n (lv' := [(0, .int (nI 1)), (1, .int (nI 9))]) B.1 B.2.1 dJ6_numberOfTrailingZeros_0f7a4_48 rfl hl (by decide) rfl (fun ls hl => ?_)
  refine lv_iload_n B.1 B.2.1 dJ6_numberOfTrailingZeros_0f7a4_49 rfl (lv_at hl 0 rfl) ?_
  refine lv_bipush (v := nI 16) B.1 B.2.1 dJ6_numberOfTrailingZeros_0f7a4_50 (by decide) ?_
  refine lv_icmp_le (tgt := 62) B.1 B.2.1 dJ6_numberOfTrailingZeros_0f7a4_52 (by decide) (fun _ => ?_) (fun z => absurd (by decide) z)
  refine lv_iload_n B.1 B.2.1 dJ6_numberOfTrailingZeros_0f7a4_62 rfl (lv_at hl 0 rfl) ?_
  refine lv_iconst (v := nI 4) B.1 B.2.1 dJ6_numberOfTrailingZeros_0f7a4_63 (by decide) ?_
  refine lv_icmp_le (tgt := 74) B.1 B.2.1 dJ6_numberOfTrailingZeros_0f7a4_64 (by decide) (fun _ => ?_) (fun z => absurd (by decide) z)
  refine lv_iload_n B.1 B.2.1 dJ6_numberOfTrailingZeros_0f7a4_74 rfl (lv_at hl 1 rfl) ?_
  refine lv_iload_n B.1 B.2.1 dJ6_numberOfTrailingZeros_0f7a4_75 rfl (lv_at hl 0 rfl) ?_
  refine lv_iconst (v := nI 1) B.1 B.2.1 dJ6_numberOfTrailingZeros_0f7a4_76 (by decide) ?_
  refine lv_iushr (v := nI 0) B.1 B.2.1 dJ6_numberOfTrailingZeros_0f7a4_77 (by decide) ?_
  refine lv_iadd B.1 B.2.1 dJ6_numberOfTrailingZeros_0f7a4_78 ?_
  refine r_tI (y := nI 9) (by decide) ?_
  exact r_eI B hC (v := nI 9) (⟨rfl, rfl⟩) dJ6_numberOfTrailingZeros_0f7a4_79
theorem ctJ6_ntz (l : Launch) (g : Gx) (lo : Nat) (ad : Nat → Nat) {F : Nat → va_E} {p : Nat} (hp : p < 10) : MI l g lo 196 ad yJ6_numberOfTrailingZeros_0f7a4 wsJ6_numberOfTrailingZeros_0f7a4 0 0 [.int (nI (2 ^ p))] F (fun r F' => r = nI p ∧ F' = F) := by
  match p, hp with
  | 0, _ => exact ctJ6_ntz0 l g lo ad
  | 1, _ => exact ctJ6_ntz1 l g lo ad
  | 2, _ => exact ctJ6_ntz2 l g lo ad
  | 3, _ => exact ctJ6_ntz3 l g lo ad
  | 4, _ => exact ctJ6_ntz4 l g lo ad
  | 5, _ => exact ctJ6_ntz5 l g lo ad
  | 6, _ => exact ctJ6_ntz6 l g lo ad
  | 7, _ => exact ctJ6_ntz7 l g lo ad
  | 8, _ => exact ctJ6_ntz8 l g lo ad
  | 9, _ => exact ctJ6_ntz9 l g lo ad
  | p + 10, hp => exact absurd hp (by omega)
end
section
/-! THE ROW OF ACTS: a ring of 24 Loads -/
abbrev AV : Type := Nat × Nat × (Nat → LV)
def afi (a : AV) : Nat := a.1
def asz (a : AV) : Nat := a.2.1
def alo (a : AV) : Nat → LV := a.2.2
def ActH (g : Gx) (ad : Nat → Nat) (F : Nat → va_E) (fi sz : Nat) : Prop := F 18 = .inr (0, [.ref (ad 19), .int (nI fi), .int (nI sz)])
def ActR (g : Gx) (ad : Nat → Nat) (F : Nat → va_E) : Prop := F 19 = .inl (g.2.2 4, 24, .inr (.inr (.inr (.inr (fun k => some (ad (20 + 5 * k)))))))
def ActC (g : Gx) (ad : Nat → Nat) (F : Nat → va_E) (a : AV) : Prop := ActH g ad F (afi a) (asz a) ∧ ActR g ad F ∧ ∀ k, k < 24 → LoadC g ad F (20 + 5 * k) (alo a k)
def AOK (a : AV) : Prop := afi a < 24 ∧ asz a ≤ 24 ∧ ∀ k, k < 24 → CAN (alo a k)
theorem ActC.keep {g : Gx} {ad : Nat → Nat} {F F' : Nat → va_E} {a : AV} (h : ActC g ad F a) (hs : ∀ i, 18 ≤ i → i < 140 → F' i = F i) : ActC g ad F' a := by
  refine ⟨by rw [ActH, hs _ (by omega) (by omega)]; exact h.1, by rw [ActR, hs _ (by omega) (by omega)]; exact h.2.1, fun k hk => ?_⟩
  obtain ⟨h0, h1, h2, h3, h4⟩ := h.2.2 k hk
  exact ⟨by rw [hs _ (by omega) (by omega)]; exact h0, by rw [hs _ (by omega) (by omega)]; exact h1, by rw [hs _ (by omega) (by omega)]; exact h2, by rw [hs _ (by omega) (by omega)]; exact h3, by rw [hs _ (by omega) (by omega)]; exact h4⟩
theorem LoadC.at {g : Gx} {ad : Nat → Nat} {F F' : Nat → va_E} {b : Nat} {w : LV} (h : LoadC g ad F b w) (hs : ∀ i, b ≤ i → i < b + 5 → F' i = F i) : LoadC g ad F' b w := by
  obtain ⟨h0, h1, h2, h3, h4⟩ := h
  exact ⟨by rw [hs _ (by omega) (by omega)]; exact h0, by rw [hs _ (by omega) (by omega)]; exact h1, by rw [hs _ (by omega) (by omega)]; exact h2, by rw [hs _ (by omega) (by omega)]; exact h3, by rw [hs _ (by omega) (by omega)]; exact h4⟩
theorem acts_upd {g : Gx} {ad : Nat → Nat} {F F' : Nat → va_E} {al : Nat → LV} {j : Nat} {w : LV} (h : ∀ k, k < 24 → LoadC g ad F (20 + 5 * k) (al k)) (hj : LoadC g ad F' (20 + 5 * j) w) (hs : ∀ i, 20 ≤ i → i < 140 → (i < 20 + 5 * j ∨ 25 + 5 * j ≤ i) → F' i = F i) : ∀ k, k < 24 → LoadC g ad F' (20 + 5 * k) (va_up al j w k) := by
  intro k hk
  by_cases e : k = j
  · subst e; rw [va_up_self]; exact hj
  · rw [va_up_ne _ _ e]
    exact (h k hk).at (fun i h1 h2 => hs i (by omega) (by omega) (by omega))
/-- remembered: the oldest goes if there are 24 -/
def remV (a : AV) (w : LV) : AV := if 24 ≤ asz a then ((afi a + 1) % 24, asz a, va_up (alo a) (((afi a + 1) % 24 + (asz a - 1)) % 24) w) else (afi a, asz a + 1, va_up (alo a) ((afi a + asz a) % 24) w)
def undV (a : AV) : LV := alo a ((afi a + (asz a - 1)) % 24)
theorem iwX0_behindLast_X0 : ∀ w ∈ u_ws RX0 TX0 3, w ∈ wsX0_behindLast := by decide +kernel
theorem flX0_behindLast_17 : Cond.fieldLink RX0 17 RX0 (TX0 1).2.1 (TX0 1).2.2.1 ∈ wsX0_behindLast := by decide +kernel
theorem flX0_behindLast_21 : Cond.fieldLink RX0 21 RX0 (TX0 2).2.1 (TX0 2).2.2.1 ∈ wsX0_behindLast := by decide +kernel
set_option maxHeartbeats 4000000 in
set_option maxRecDepth 100000 in
theorem ctX0_behindLast (l : Launch) (g : Gx) (lo : Nat) (ad : Nat → Nat) {F : Nat → va_E} {fi sz : Nat} (hA : ActH g ad F fi sz) (hf : fi < 24) (hz : sz ≤ 24) : MI l g lo 196 ad yX0_behindLast wsX0_behindLast 1 22 [.ref (ad (18))] F (fun r F' => r = nI ((fi + sz) % 24) ∧ F' = F) := by
  have a0 := hA; unfold ActH at a0
  refine enter (cc := cX0_behindLast) (maxL := 1) (ret := some .int) (own := RX0) (by decide +kernel) rfl rfl (Nat.le_of_ble_eq_true rfl) ?_
  intro pp ee ss mm below meth cc B hini hC ls hl
  have hl : lv_has ls 1 [(0, .ref (ad (18)))] := hl
  refine lv_aload_n B.1 B.2.1 dX0_behindLast_0 rfl (lv_at hl 0 rfl) ?_
  refine r_cg B hC (i := 18) (by decide) a0 (C := RX0) (T := TX0) (n := 3) rfl iwX0_behindLast_X0 1 (by decide) (index := 17) flX0_behindLast_17 rfl (v := .int (nI fi)) rfl dX0_behindLast_1 ?_
  refine lv_aload_n B.1 B.2.1 dX0_behindLast_4 rfl (lv_at hl 0 rfl) ?_
  refine r_cg B hC (i := 18) (by decide) a0 (C := RX0) (T := TX0) (n := 3) rfl iwX0_behindLast_X0 2 (by decide) (index := 21) flX0_behindLast_21 rfl (v := .int (nI sz)) rfl dX0_behindLast_5 ?_
  refine lv_iadd B.1 B.2.1 dX0_behindLast_8 ?_
  refine r_tI (y := nI (fi + sz)) (nI_add _ _) ?_
  refine lv_bipush (v := nI 24) B.1 B.2.1 dX0_behindLast_9 (by decide) ?_
  refine r_scalli B hC hl.1 (As := [.int (nI (fi + sz)), .int (nI 24)]) (ctJ9_floorMod l g lo ad (a := (fi + sz)) (by omega)) gX0_behindLast_J9_floorMod_7cf53 rfl (n := 2) rfl (by decide +kernel) ⟨Nat.le_of_ble_eq_true rfl, Nat.le_of_ble_eq_true rfl⟩ ⟨Nat.zero_le _, Nat.zero_le _⟩ rfl (Nat.le_of_ble_eq_true rfl) dX0_behindLast_11 (fun r11 F1 H locs hp11 hC => ?_)
  obtain ⟨er, eF⟩ := hp11
  subst er
  rw [eF] at hC
  exact r_eI B hC (v := nI ((fi + sz) % 24)) (⟨rfl, rfl⟩) dX0_behindLast_14
theorem iwX0_size_X0 : ∀ w ∈ u_ws RX0 TX0 3, w ∈ wsX0_size := by decide +kernel
theorem flX0_size_21 : Cond.fieldLink RX0 21 RX0 (TX0 2).2.1 (TX0 2).2.2.1 ∈ wsX0_size := by decide +kernel
set_option maxHeartbeats 4000000 in
set_option maxRecDepth 100000 in
theorem ctX0_size (l : Launch) (g : Gx) (lo : Nat) (ad : Nat → Nat) {F : Nat → va_E} {fi sz : Nat} (hA : ActH g ad F fi sz) (hf : fi < 24) (hz : sz ≤ 24) : MI l g lo 196 ad yX0_size wsX0_size 0 0 [.ref (ad (18))] F (fun r F' => r = nI sz ∧ F' = F) := by
  have a0 := hA; unfold ActH at a0
  refine enter (cc := cX0_size) (maxL := 1) (ret := some .int) (own := RX0) (by decide +kernel) rfl rfl (Nat.le_of_ble_eq_true rfl) ?_
  intro pp ee ss mm below meth cc B hini hC ls hl
  have hl : lv_has ls 1 [(0, .ref (ad (18)))] := hl
  refine lv_aload_n B.1 B.2.1 dX0_size_0 rfl (lv_at hl 0 rfl) ?_
  refine r_cg B hC (i := 18) (by decide) a0 (C := RX0) (T := TX0) (n := 3) rfl iwX0_size_X0 2 (by decide) (index := 21) flX0_size_21 rfl (v := .int (nI sz)) rfl dX0_size_1 ?_
  exact r_eI B hC (v := nI sz) (⟨rfl, rfl⟩) dX0_size_4
theorem iwX0_forgetAll_X0 : ∀ w ∈ u_ws RX0 TX0 3, w ∈ wsX0_forgetAll := by decide +kernel
theorem flX0_forgetAll_21 : Cond.fieldLink RX0 21 RX0 (TX0 2).2.1 (TX0 2).2.2.1 ∈ wsX0_forgetAll := by decide +kernel
set_option maxHeartbeats 4000000 in
set_option maxRecDepth 100000 in
theorem ctX0_forgetAll (l : Launch) (g : Gx) (lo : Nat) (ad : Nat → Nat) {F : Nat → va_E} {fi sz : Nat} (hA : ActH g ad F fi sz) (hf : fi < 24) (hz : sz ≤ 24) : MV l g lo 196 ad yX0_forgetAll wsX0_forgetAll 0 0 [.ref (ad (18))] F (fun F' => ActH g ad F' fi 0 ∧ Same 18 19 F F') := by
  have a0 := hA; unfold ActH at a0
  refine enter (cc := cX0_forgetAll) (maxL := 1) (ret := none) (own := RX0) (by decide +kernel) rfl rfl (Nat.le_of_ble_eq_true rfl) ?_
  intro pp ee ss mm below meth cc B hini hC ls hl
  have hl : lv_has ls 1 [(0, .ref (ad (18)))] := hl
  refine lv_aload_n B.1 B.2.1 dX0_forgetAll_0 rfl (lv_at hl 0 rfl) ?_
  refine lv_iconst (v := nI 0) B.1 B.2.1 dX0_forgetAll_1 (by decide) ?_
  refine r_cp B hC (i := 18) (by decide) a0 tyX0 tyX0_ok nmX0 (C := RX0) (T := TX0) rfl iwX0_forgetAll_X0 2 (by decide) (index := 21) flX0_forgetAll_21 rfl rfl (v := .int (nI 0)) (rfl) (rfl) (Nat.le_of_ble_eq_true rfl) dX0_forgetAll_2 ?_
  intro H locs hC
  obtain ⟨F1, eF1⟩ : ∃ f : Nat → va_E, f = va_up F (18) (.inr (0, [.ref (ad (19)), .int (nI fi), .int (nI 0)])) := ⟨_, rfl⟩
  have hC : Cu g lo 196 ad F1 ss ss.heap H locs := by rw [eF1]; exact hC
  have k18_F1 : F1 18 = .inr (0, [.ref (ad (19)), .int (nI fi), .int (nI 0)]) := by rw [eF1]; exact va_up_self _ _ _
  exact r_eV B hC (⟨k18_F1, (by rw [eF1]; exact Same.up Same.rf (by omega) (by omega))⟩) dX0_forgetAll_5
theorem iwX0_remember_X0 : ∀ w ∈ u_ws RX0 TX0 3, w ∈ wsX0_remember := by decide +kernel
theorem flX0_remember_11 : Cond.fieldLink RX0 11 RX0 (TX0 0).2.1 (TX0 0).2.2.1 ∈ wsX0_remember := by decide +kernel
theorem flX0_remember_17 : Cond.fieldLink RX0 17 RX0 (TX0 1).2.1 (TX0 1).2.2.1 ∈ wsX0_remember := by decide +kernel
theorem flX0_remember_21 : Cond.fieldLink RX0 21 RX0 (TX0 2).2.1 (TX0 2).2.2.1 ∈ wsX0_remember := by decide +kernel
set_option maxHeartbeats 4000000 in
set_option maxRecDepth 100000 in
theorem ctX0_remember (l : Launch) (g : Gx) (lo : Nat) (ad : Nat → Nat) {F : Nat → va_E} {a : AV} {w : LV} (hA : ActC g ad F a) (ok : AOK a) (hL : LoadC g ad F 8 w) (hc : CAN w) : MV l g lo 196 ad yX0_remember wsX0_remember 2 61 [.ref (ad (18)), .ref (ad (8))] F (fun F' => ActC g ad F' (remV a w) ∧ Same 18 140 F F') := by
  obtain ⟨a0, a1, aL⟩ := id hA
  unfold ActH at a0
  unfold ActR at a1
  have okf := ok.1
  have okz := ok.2.1
  obtain ⟨h0, h1, h2, h3, h4⟩ := id hL
  refine enter (cc := cX0_remember) (maxL := 2) (ret := none) (own := RX0) (by decide +kernel) rfl rfl (Nat.le_of_ble_eq_true rfl) ?_
  intro pp ee ss mm below meth cc B hini hC ls hl
  have hl : lv_has ls 2 [(0, .ref (ad (18))), (1, .ref (ad (8)))] := hl
  refine lv_aload_n B.1 B.2.1 dX0_remember_0 rfl (lv_at hl 0 rfl) ?_
  refine r_cg B hC (i := 18) (by decide) a0 (C := RX0) (T := TX0) (n := 3) rfl iwX0_remember_X0 2 (by decide) (index := 21) flX0_remember_21 rfl (v := .int (nI (asz a))) rfl dX0_remember_1 ?_
  refine lv_bipush (v := nI 24) B.1 B.2.1 dX0_remember_4 (by decide) ?_
  refine lv_icmp_lt (tgt := 34) B.1 B.2.1 dX0_remember_6 (by decide) (fun c_6 => ?_) (fun c_6 => ?_)
  · have q_6 : (asz a) < 24 := (nI_ltI (by omega) (by omega)).mp c_6
    refine lv_aload_n B.1 B.2.1 dX0_remember_34 rfl (lv_at hl 0 rfl) ?_
    refine r_cg B hC (i := 18) (by decide) a0 (C := RX0) (T := TX0) (n := 3) rfl iwX0_remember_X0 0 (by decide) (index := 11) flX0_remember_11 rfl (v := .ref (ad (19))) rfl dX0_remember_35 ?_
    refine lv_aload_n B.1 B.2.1 dX0_remember_38 rfl (lv_at hl 0 rfl) ?_
    refine r_calli B hC hl.1 (18) 0 rfl rfl (by decide) a0 (As := []) (ctX0_behindLast l g lo ad (fi := (afi a)) (sz := (asz a)) a0 (by omega) (by omega)) gX0_remember_X0_behindLast rfl (n := 0) rfl (by decide +kernel) ⟨Nat.le_of_ble_eq_true rfl, Nat.le_of_ble_eq_true rfl⟩ ⟨Nat.zero_le _, Nat.zero_le _⟩ rfl (Nat.le_of_ble_eq_true rfl) dX0_remember_39 (fun r39 F1 H locs hp39 hC => ?_)
    obtain ⟨er, eF⟩ := hp39
    subst er
    rw [eF] at hC
    refine r_cqald B hC (i := 19) (by decide) a1 (j := (((afi a) + (asz a)) % 24)) (by omega) (by decide) (t := ad (20 + 5 * (((afi a) + (asz a)) % 24))) (rfl) dX0_remember_42 ?_
    refine lv_aload_n B.1 B.2.1 dX0_remember_43 rfl (lv_at hl 1 rfl) ?_
    have hj44 : (((afi a) + (asz a)) % 24) < 24 := by omega
    have aLj : LoadC g ad F (20 + 5 * (((afi a) + (asz a)) % 24)) (alo a (((afi a) + (asz a)) % 24)) := (aL (((afi a) + (asz a)) % 24) hj44).at (fun i h1 h2 => by rfl)
    have hLn : LoadC g ad F 8 w := ⟨h0, h1, h2, h3, h4⟩
    obtain ⟨n0, n1, n2, n3, n4⟩ := id aLj
    refine r_callv B hC hl.1 (20 + 5 * (((afi a) + (asz a)) % 24)) 3 rfl rfl (by omega) n0 (As := [.ref (ad (8))]) (ctX3_copyFrom l g lo ad (b := 20 + 5 * (((afi a) + (asz a)) % 24)) (by omega) aLj (b2 := 8) (by omega) (by omega) hLn (ok.2.2 (((afi a) + (asz a)) % 24) hj44) hc) gX0_remember_X3_copyFrom rfl (n := 1) rfl (by decide +kernel) ⟨Nat.le_of_ble_eq_true rfl, Nat.le_of_ble_eq_true rfl⟩ ⟨Nat.zero_le _, Nat.zero_le _⟩ rfl (Nat.le_of_ble_eq_true rfl) dX0_remember_44 (fun F1 H locs hp44 hC => ?_)
    obtain ⟨hLj, hs_F1⟩ := hp44
    have a0_F1 : F1 18 = .inr (0, [.ref (ad (19)), .int (nI (afi a)), .int (nI (asz a))]) := (hs_F1 _ (by omega)).trans a0
    have a1_F1 : F1 19 = .inl (g.2.2 4, 24, .inr (.inr (.inr (.inr (fun k => some (ad (20 + 5 * k))))))) := (hs_F1 _ (by omega)).trans a1
    have h0_F1 : F1 8 = .inr (3, [.ref (ad (9)), .ref (ad (10)), .ref (ad (11)), .ref (ad (12)), .int (nI (wa w)), .int (bI (su w))]) := (hs_F1 _ (by omega)).trans h0
    have h1_F1 : F1 9 = .inl (g.2.2 0, 10, .inl (fun j => nI (wh w j))) := (hs_F1 _ (by omega)).trans h1
    have h2_F1 : F1 10 = .inl (g.2.2 0, 10, .inl (fun j => nI (ln w j))) := (hs_F1 _ (by omega)).trans h2
    have h3_F1 : F1 11 = .inl (g.2.2 0, 10, .inl (fun j => nI (wo w j))) := (hs_F1 _ (by omega)).trans h3
    have h4_F1 : F1 12 = .inl (g.2.2 0, 10, .inl (fun j => oI (ti w j))) := (hs_F1 _ (by omega)).trans h4
    refine lv_aload_n B.1 B.2.1 dX0_remember_47 rfl (lv_at hl 0 rfl) ?_
    refine lv_dup B.1 B.2.1 dX0_remember_48 rfl ?_
    refine r_cg B hC (i := 18) (by decide) a0_F1 (C := RX0) (T := TX0) (n := 3) rfl iwX0_remember_X0 2 (by decide) (index := 21) flX0_remember_21 rfl (v := .int (nI (asz a))) rfl dX0_remember_49 ?_
    refine lv_iconst (v := nI 1) B.1 B.2.1 dX0_remember_52 (by decide) ?_
    refine lv_iadd B.1 B.2.1 dX0_remember_53 ?_
    refine r_tI (y := nI ((asz a) + 1)) (nI_add _ _) ?_
    refine r_cp B hC (i := 18) (by decide) a0_F1 tyX0 tyX0_ok nmX0 (C := RX0) (T := TX0) rfl iwX0_remember_X0 2 (by decide) (index := 21) flX0_remember_21 rfl rfl (v := .int (nI ((asz a) + 1))) (rfl) (rfl) (Nat.le_of_ble_eq_true rfl) dX0_remember_54 ?_
    intro H locs hC
    obtain ⟨F2, eF2⟩ : ∃ f : Nat → va_E, f = va_up F1 (18) (.inr (0, [.ref (ad (19)), .int (nI (afi a)), .int (nI ((asz a) + 1))])) := ⟨_, rfl⟩
    have hC : Cu g lo 196 ad F2 ss ss.heap H locs := by rw [eF2]; exact hC
    have k18_F2 : F2 18 = .inr (0, [.ref (ad (19)), .int (nI (afi a)), .int (nI ((asz a) + 1))]) := by rw [eF2]; exact va_up_self _ _ _
    have a1_F2 : F2 19 = .inl (g.2.2 4, 24, .inr (.inr (.inr (.inr (fun k => some (ad (20 + 5 * k))))))) := by rw [eF2, va_up_ne _ _ (by decide)]; exact a1_F1
    have h0_F2 : F2 8 = .inr (3, [.ref (ad (9)), .ref (ad (10)), .ref (ad (11)), .ref (ad (12)), .int (nI (wa w)), .int (bI (su w))]) := by rw [eF2, va_up_ne _ _ (by decide)]; exact h0_F1
    have h1_F2 : F2 9 = .inl (g.2.2 0, 10, .inl (fun j => nI (wh w j))) := by rw [eF2, va_up_ne _ _ (by decide)]; exact h1_F1
    have h2_F2 : F2 10 = .inl (g.2.2 0, 10, .inl (fun j => nI (ln w j))) := by rw [eF2, va_up_ne _ _ (by decide)]; exact h2_F1
    have h3_F2 : F2 11 = .inl (g.2.2 0, 10, .inl (fun j => nI (wo w j))) := by rw [eF2, va_up_ne _ _ (by decide)]; exact h3_F1
    have h4_F2 : F2 12 = .inl (g.2.2 0, 10, .inl (fun j => oI (ti w j))) := by rw [eF2, va_up_ne _ _ (by decide)]; exact h4_F1
    exact r_eV B hC (by
      have hv : remV a w = (afi a, asz a + 1, va_up (alo a) ((afi a + asz a) % 24) w) := by rw [remV, if_neg (by omega)]
      rw [hv]
      refine ⟨⟨k18_F2, a1_F2, acts_upd (j := ((afi a + asz a) % 24)) aL (LoadC.at hLj (fun i h1 h2 => by rw [eF2, va_up_ne _ _ (by omega)])) (fun i h1 h2 h3 => by rw [eF2, va_up_ne _ _ (by omega)]; rw [hs_F1 i (by omega)])⟩, fun i h1 => by rw [eF2, va_up_ne _ _ (by omega)]; rw [hs_F1 i (by omega)]⟩) dX0_remember_57
  · have q_6 : ¬ (asz a) < 24 := fun z => c_6 ((nI_ltI (by omega) (by omega)).mpr z)
    refine lv_aload_n B.1 B.2.1 dX0_remember_9 rfl (lv_at hl 0 rfl) ?_
    refine lv_aload_n B.1 B.2.1 dX0_remember_10 rfl (lv_at hl 0 rfl) ?_
    refine r_cg B hC (i := 18) (by decide) a0 (C := RX0) (T := TX0) (n := 3) rfl iwX0_remember_X0 1 (by decide) (index := 17) flX0_remember_17 rfl (v := .int (nI (afi a))) rfl dX0_remember_11 ?_
    refine lv_iconst (v := nI 1) B.1 B.2.1 dX0_remember_14 (by decide) ?_
    refine lv_iadd B.1 B.2.1 dX0_remember_15 ?_
    refine r_tI (y := nI ((afi a) + 1)) (nI_add _ _) ?_
    refine lv_bipush (v := nI 24) B.1 B.2.1 dX0_remember_16 (by decide) ?_
    refine r_scalli B hC hl.1 (As := [.int (nI ((afi a) + 1)), .int (nI 24)]) (ctJ9_floorMod l g lo ad (a := ((afi a) + 1)) (by omega)) gX0_remember_J9_floorMod_7cf53 rfl (n := 2) rfl (by decide +kernel) ⟨Nat.le_of_ble_eq_true rfl, Nat.le_of_ble_eq_true rfl⟩ ⟨Nat.zero_le _, Nat.zero_le _⟩ rfl (Nat.le_of_ble_eq_true rfl) dX0_remember_18 (fun r18 F1 H locs hp18 hC => ?_)
    obtain ⟨er, eF⟩ := hp18
    subst er
    rw [eF] at hC
    refine r_cp B hC (i := 18) (by decide) a0 tyX0 tyX0_ok nmX0 (C := RX0) (T := TX0) rfl iwX0_remember_X0 1 (by decide) (index := 17) flX0_remember_17 rfl rfl (v := .int (nI (((afi a) + 1) % 24))) (rfl) (rfl) (Nat.le_of_ble_eq_true rfl) dX0_remember_21 ?_
    intro H locs hC
    obtain ⟨F1, eF1⟩ : ∃ f : Nat → va_E, f = va_up F (18) (.inr (0, [.ref (ad (19)), .int (nI (((afi a) + 1) % 24)), .int (nI (asz a))])) := ⟨_, rfl⟩
    have hC : Cu g lo 196 ad F1 ss ss.heap H locs := by rw [eF1]; exact hC
    have k18_F1 : F1 18 = .inr (0, [.ref (ad (19)), .int (nI (((afi a) + 1) % 24)), .int (nI (asz a))]) := by rw [eF1]; exact va_up_self _ _ _
    have a1_F1 : F1 19 = .inl (g.2.2 4, 24, .inr (.inr (.inr (.inr (fun k => some (ad (20 + 5 * k))))))) := by rw [eF1, va_up_ne _ _ (by decide)]; exact a1
    have h0_F1 : F1 8 = .inr (3, [.ref (ad (9)), .ref (ad (10)), .ref (ad (11)), .ref (ad (12)), .int (nI (wa w)), .int (bI (su w))]) := by rw [eF1, va_up_ne _ _ (by decide)]; exact h0
    have h1_F1 : F1 9 = .inl (g.2.2 0, 10, .inl (fun j => nI (wh w j))) := by rw [eF1, va_up_ne _ _ (by decide)]; exact h1
    have h2_F1 : F1 10 = .inl (g.2.2 0, 10, .inl (fun j => nI (ln w j))) := by rw [eF1, va_up_ne _ _ (by decide)]; exact h2
    have h3_F1 : F1 11 = .inl (g.2.2 0, 10, .inl (fun j => nI (wo w j))) := by rw [eF1, va_up_ne _ _ (by decide)]; exact h3
    have h4_F1 : F1 12 = .inl (g.2.2 0, 10, .inl (fun j => oI (ti w j))) := by rw [eF1, va_up_ne _ _ (by decide)]; exact h4
    refine lv_aload_n B.1 B.2.1 dX0_remember_24 rfl (lv_at hl 0 rfl) ?_
    refine lv_dup B.1 B.2.1 dX0_remember_25 rfl ?_
    refine r_cg B hC (i := 18) (by decide) k18_F1 (C := RX0) (T := TX0) (n := 3) rfl iwX0_remember_X0 2 (by decide) (index := 21) flX0_remember_21 rfl (v := .int (nI (asz a))) rfl dX0_remember_26 ?_
    refine lv_iconst (v := nI 1) B.1 B.2.1 dX0_remember_29 (by decide) ?_
    refine lv_isub B.1 B.2.1 dX0_remember_30 ?_
    refine r_tI (y := nI (asz a - 1)) (pk_sub (by omega)) ?_
    refine r_cp B hC (i := 18) (by decide) k18_F1 tyX0 tyX0_ok nmX0 (C := RX0) (T := TX0) rfl iwX0_remember_X0 2 (by decide) (index := 21) flX0_remember_21 rfl rfl (v := .int (nI (asz a - 1))) (rfl) (rfl) (Nat.le_of_ble_eq_true rfl) dX0_remember_31 ?_
    intro H locs hC
    obtain ⟨F2, eF2⟩ : ∃ f : Nat → va_E, f = va_up F1 (18) (.inr (0, [.ref (ad (19)), .int (nI (((afi a) + 1) % 24)), .int (nI (asz a - 1))])) := ⟨_, rfl⟩
    have hC : Cu g lo 196 ad F2 ss ss.heap H locs := by rw [eF2]; exact hC
    have k18_F2 : F2 18 = .inr (0, [.ref (ad (19)), .int (nI (((afi a) + 1) % 24)), .int (nI (asz a - 1))]) := by rw [eF2]; exact va_up_self _ _ _
    have a1_F2 : F2 19 = .inl (g.2.2 4, 24, .inr (.inr (.inr (.inr (fun k => some (ad (20 + 5 * k))))))) := by rw [eF2, va_up_ne _ _ (by decide)]; exact a1_F1
    have h0_F2 : F2 8 = .inr (3, [.ref (ad (9)), .ref (ad (10)), .ref (ad (11)), .ref (ad (12)), .int (nI (wa w)), .int (bI (su w))]) := by rw [eF2, va_up_ne _ _ (by decide)]; exact h0_F1
    have h1_F2 : F2 9 = .inl (g.2.2 0, 10, .inl (fun j => nI (wh w j))) := by rw [eF2, va_up_ne _ _ (by decide)]; exact h1_F1
    have h2_F2 : F2 10 = .inl (g.2.2 0, 10, .inl (fun j => nI (ln w j))) := by rw [eF2, va_up_ne _ _ (by decide)]; exact h2_F1
    have h3_F2 : F2 11 = .inl (g.2.2 0, 10, .inl (fun j => nI (wo w j))) := by rw [eF2, va_up_ne _ _ (by decide)]; exact h3_F1
    have h4_F2 : F2 12 = .inl (g.2.2 0, 10, .inl (fun j => oI (ti w j))) := by rw [eF2, va_up_ne _ _ (by decide)]; exact h4_F1
    refine lv_aload_n B.1 B.2.1 dX0_remember_34 rfl (lv_at hl 0 rfl) ?_
    refine r_cg B hC (i := 18) (by decide) k18_F2 (C := RX0) (T := TX0) (n := 3) rfl iwX0_remember_X0 0 (by decide) (index := 11) flX0_remember_11 rfl (v := .ref (ad (19))) rfl dX0_remember_35 ?_
    refine lv_aload_n B.1 B.2.1 dX0_remember_38 rfl (lv_at hl 0 rfl) ?_
    refine r_calli B hC hl.1 (18) 0 rfl rfl (by decide) k18_F2 (As := []) (ctX0_behindLast l g lo ad (fi := (((afi a) + 1) % 24)) (sz := (asz a - 1)) k18_F2 (by omega) (by omega)) gX0_remember_X0_behindLast rfl (n := 0) rfl (by decide +kernel) ⟨Nat.le_of_ble_eq_true rfl, Nat.le_of_ble_eq_true rfl⟩ ⟨Nat.zero_le _, Nat.zero_le _⟩ rfl (Nat.le_of_ble_eq_true rfl) dX0_remember_39 (fun r39 F3 H locs hp39 hC => ?_)
    obtain ⟨er, eF⟩ := hp39
    subst er
    rw [eF] at hC
    refine r_cqald B hC (i := 19) (by decide) a1_F2 (j := (((((afi a) + 1) % 24) + (asz a - 1)) % 24)) (by omega) (by decide) (t := ad (20 + 5 * (((((afi a) + 1) % 24) + (asz a - 1)) % 24))) (rfl) dX0_remember_42 ?_
    refine lv_aload_n B.1 B.2.1 dX0_remember_43 rfl (lv_at hl 1 rfl) ?_
    have hj44 : (((((afi a) + 1) % 24) + (asz a - 1)) % 24) < 24 := by omega
    have aLj : LoadC g ad F2 (20 + 5 * (((((afi a) + 1) % 24) + (asz a - 1)) % 24)) (alo a (((((afi a) + 1) % 24) + (asz a - 1)) % 24)) := (aL (((((afi a) + 1) % 24) + (asz a - 1)) % 24) hj44).at (fun i h1 h2 => by rw [eF2, va_up_ne _ _ (by omega)]; rw [eF1, va_up_ne _ _ (by omega)])
    have hLn : LoadC g ad F2 8 w := ⟨h0_F2, h1_F2, h2_F2, h3_F2, h4_F2⟩
    obtain ⟨n0, n1, n2, n3, n4⟩ := id aLj
    refine r_callv B hC hl.1 (20 + 5 * (((((afi a) + 1) % 24) + (asz a - 1)) % 24)) 3 rfl rfl (by omega) n0 (As := [.ref (ad (8))]) (ctX3_copyFrom l g lo ad (b := 20 + 5 * (((((afi a) + 1) % 24) + (asz a - 1)) % 24)) (by omega) aLj (b2 := 8) (by omega) (by omega) hLn (ok.2.2 (((((afi a) + 1) % 24) + (asz a - 1)) % 24) hj44) hc) gX0_remember_X3_copyFrom rfl (n := 1) rfl (by decide +kernel) ⟨Nat.le_of_ble_eq_true rfl, Nat.le_of_ble_eq_true rfl⟩ ⟨Nat.zero_le _, Nat.zero_le _⟩ rfl (Nat.le_of_ble_eq_true rfl) dX0_remember_44 (fun F3 H locs hp44 hC => ?_)
    obtain ⟨hLj, hs_F3⟩ := hp44
    have a1_F3 : F3 19 = .inl (g.2.2 4, 24, .inr (.inr (.inr (.inr (fun k => some (ad (20 + 5 * k))))))) := (hs_F3 _ (by omega)).trans a1_F2
    have h0_F3 : F3 8 = .inr (3, [.ref (ad (9)), .ref (ad (10)), .ref (ad (11)), .ref (ad (12)), .int (nI (wa w)), .int (bI (su w))]) := (hs_F3 _ (by omega)).trans h0_F2
    have h1_F3 : F3 9 = .inl (g.2.2 0, 10, .inl (fun j => nI (wh w j))) := (hs_F3 _ (by omega)).trans h1_F2
    have h2_F3 : F3 10 = .inl (g.2.2 0, 10, .inl (fun j => nI (ln w j))) := (hs_F3 _ (by omega)).trans h2_F2
    have h3_F3 : F3 11 = .inl (g.2.2 0, 10, .inl (fun j => nI (wo w j))) := (hs_F3 _ (by omega)).trans h3_F2
    have h4_F3 : F3 12 = .inl (g.2.2 0, 10, .inl (fun j => oI (ti w j))) := (hs_F3 _ (by omega)).trans h4_F2
    have k18_F3 : F3 18 = .inr (0, [.ref (ad (19)), .int (nI (((afi a) + 1) % 24)), .int (nI (asz a - 1))]) := (hs_F3 _ (by omega)).trans k18_F2
    refine lv_aload_n B.1 B.2.1 dX0_remember_47 rfl (lv_at hl 0 rfl) ?_
    refine lv_dup B.1 B.2.1 dX0_remember_48 rfl ?_
    refine r_cg B hC (i := 18) (by decide) k18_F3 (C := RX0) (T := TX0) (n := 3) rfl iwX0_remember_X0 2 (by decide) (index := 21) flX0_remember_21 rfl (v := .int (nI (asz a - 1))) rfl dX0_remember_49 ?_
    refine lv_iconst (v := nI 1) B.1 B.2.1 dX0_remember_52 (by decide) ?_
    refine lv_iadd B.1 B.2.1 dX0_remember_53 ?_
    refine r_tI (y := nI ((asz a - 1) + 1)) (nI_add _ _) ?_
    refine r_cp B hC (i := 18) (by decide) k18_F3 tyX0 tyX0_ok nmX0 (C := RX0) (T := TX0) rfl iwX0_remember_X0 2 (by decide) (index := 21) flX0_remember_21 rfl rfl (v := .int (nI ((asz a - 1) + 1))) (rfl) (rfl) (Nat.le_of_ble_eq_true rfl) dX0_remember_54 ?_
    intro H locs hC
    obtain ⟨F4, eF4⟩ : ∃ f : Nat → va_E, f = va_up F3 (18) (.inr (0, [.ref (ad (19)), .int (nI (((afi a) + 1) % 24)), .int (nI ((asz a - 1) + 1))])) := ⟨_, rfl⟩
    have hC : Cu g lo 196 ad F4 ss ss.heap H locs := by rw [eF4]; exact hC
    have k18_F4 : F4 18 = .inr (0, [.ref (ad (19)), .int (nI (((afi a) + 1) % 24)), .int (nI ((asz a - 1) + 1))]) := by rw [eF4]; exact va_up_self _ _ _
    have a1_F4 : F4 19 = .inl (g.2.2 4, 24, .inr (.inr (.inr (.inr (fun k => some (ad (20 + 5 * k))))))) := by rw [eF4, va_up_ne _ _ (by decide)]; exact a1_F3
    have h0_F4 : F4 8 = .inr (3, [.ref (ad (9)), .ref (ad (10)), .ref (ad (11)), .ref (ad (12)), .int (nI (wa w)), .int (bI (su w))]) := by rw [eF4, va_up_ne _ _ (by decide)]; exact h0_F3
    have h1_F4 : F4 9 = .inl (g.2.2 0, 10, .inl (fun j => nI (wh w j))) := by rw [eF4, va_up_ne _ _ (by decide)]; exact h1_F3
    have h2_F4 : F4 10 = .inl (g.2.2 0, 10, .inl (fun j => nI (ln w j))) := by rw [eF4, va_up_ne _ _ (by decide)]; exact h2_F3
    have h3_F4 : F4 11 = .inl (g.2.2 0, 10, .inl (fun j => nI (wo w j))) := by rw [eF4, va_up_ne _ _ (by decide)]; exact h3_F3
    have h4_F4 : F4 12 = .inl (g.2.2 0, 10, .inl (fun j => oI (ti w j))) := by rw [eF4, va_up_ne _ _ (by decide)]; exact h4_F3
    exact r_eV B hC (by
      have hv : remV a w = ((afi a + 1) % 24, asz a - 1 + 1, va_up (alo a) (((afi a + 1) % 24 + (asz a - 1)) % 24) w) := by rw [remV, if_pos (by omega), show asz a - 1 + 1 = asz a by omega]
      rw [hv]
      refine ⟨⟨k18_F4, a1_F4, acts_upd (j := (((afi a + 1) % 24 + (asz a - 1)) % 24)) aL (LoadC.at hLj (fun i h1 h2 => by rw [eF4, va_up_ne _ _ (by omega)])) (fun i h1 h2 h3 => by rw [eF4, va_up_ne _ _ (by omega)]; rw [hs_F3 i (by omega)]; rw [eF2, va_up_ne _ _ (by omega)]; rw [eF1, va_up_ne _ _ (by omega)])⟩, fun i h1 => by rw [eF4, va_up_ne _ _ (by omega)]; rw [hs_F3 i (by omega)]; rw [eF2, va_up_ne _ _ (by omega)]; rw [eF1, va_up_ne _ _ (by omega)]⟩) dX0_remember_57
theorem iwX0_undoLast_X0 : ∀ w ∈ u_ws RX0 TX0 3, w ∈ wsX0_undoLast := by decide +kernel
theorem flX0_undoLast_11 : Cond.fieldLink RX0 11 RX0 (TX0 0).2.1 (TX0 0).2.2.1 ∈ wsX0_undoLast := by decide +kernel
theorem flX0_undoLast_21 : Cond.fieldLink RX0 21 RX0 (TX0 2).2.1 (TX0 2).2.2.1 ∈ wsX0_undoLast := by decide +kernel
set_option maxHeartbeats 4000000 in
set_option maxRecDepth 100000 in
theorem ctX0_undoLast (l : Launch) (g : Gx) (lo : Nat) (ad : Nat → Nat) {F : Nat → va_E} {a : AV} {w : LV} (hA : ActC g ad F a) (ok : AOK a) (hL : LoadC g ad F 8 w) (hc : CAN w) (hpos : 0 < asz a) : MV l g lo 196 ad yX0_undoLast wsX0_undoLast 2 61 [.ref (ad (18)), .ref (ad (8))] F (fun F' => ActC g ad F' (afi a, asz a - 1, alo a) ∧ LoadC g ad F' 8 (undV a) ∧ ∀ i, i ≠ 18 → (i < 8 ∨ 13 ≤ i) → F' i = F i) := by
  obtain ⟨a0, a1, aL⟩ := id hA
  unfold ActH at a0
  unfold ActR at a1
  have okf := ok.1
  have okz := ok.2.1
  obtain ⟨h0, h1, h2, h3, h4⟩ := id hL
  refine enter (cc := cX0_undoLast) (maxL := 2) (ret := none) (own := RX0) (by decide +kernel) rfl rfl (Nat.le_of_ble_eq_true rfl) ?_
  intro pp ee ss mm below meth cc B hini hC ls hl
  have hl : lv_has ls 2 [(0, .ref (ad (18))), (1, .ref (ad (8)))] := hl
  refine lv_aload_n B.1 B.2.1 dX0_undoLast_0 rfl (lv_at hl 0 rfl) ?_
  refine r_cg B hC (i := 18) (by decide) a0 (C := RX0) (T := TX0) (n := 3) rfl iwX0_undoLast_X0 2 (by decide) (index := 21) flX0_undoLast_21 rfl (v := .int (nI (asz a))) rfl dX0_undoLast_1 ?_
  refine lv_if_le (tgt := 30) B.1 B.2.1 dX0_undoLast_4 (by decide) (fun z => absurd z (nI_nle (by omega) (by omega))) (fun _ => ?_)
  refine lv_aload_n B.1 B.2.1 dX0_undoLast_7 rfl (lv_at hl 0 rfl) ?_
  refine lv_dup B.1 B.2.1 dX0_undoLast_8 rfl ?_
  refine r_cg B hC (i := 18) (by decide) a0 (C := RX0) (T := TX0) (n := 3) rfl iwX0_undoLast_X0 2 (by decide) (index := 21) flX0_undoLast_21 rfl (v := .int (nI (asz a))) rfl dX0_undoLast_9 ?_
  refine lv_iconst (v := nI 1) B.1 B.2.1 dX0_undoLast_12 (by decide) ?_
  refine lv_isub B.1 B.2.1 dX0_undoLast_13 ?_
  refine r_tI (y := nI (asz a - 1)) (pk_sub (by omega)) ?_
  refine r_cp B hC (i := 18) (by decide) a0 tyX0 tyX0_ok nmX0 (C := RX0) (T := TX0) rfl iwX0_undoLast_X0 2 (by decide) (index := 21) flX0_undoLast_21 rfl rfl (v := .int (nI (asz a - 1))) (rfl) (rfl) (Nat.le_of_ble_eq_true rfl) dX0_undoLast_14 ?_
  intro H locs hC
  obtain ⟨F1, eF1⟩ : ∃ f : Nat → va_E, f = va_up F (18) (.inr (0, [.ref (ad (19)), .int (nI (afi a)), .int (nI (asz a - 1))])) := ⟨_, rfl⟩
  have hC : Cu g lo 196 ad F1 ss ss.heap H locs := by rw [eF1]; exact hC
  have k18_F1 : F1 18 = .inr (0, [.ref (ad (19)), .int (nI (afi a)), .int (nI (asz a - 1))]) := by rw [eF1]; exact va_up_self _ _ _
  have a1_F1 : F1 19 = .inl (g.2.2 4, 24, .inr (.inr (.inr (.inr (fun k => some (ad (20 + 5 * k))))))) := by rw [eF1, va_up_ne _ _ (by decide)]; exact a1
  have h0_F1 : F1 8 = .inr (3, [.ref (ad (9)), .ref (ad (10)), .ref (ad (11)), .ref (ad (12)), .int (nI (wa w)), .int (bI (su w))]) := by rw [eF1, va_up_ne _ _ (by decide)]; exact h0
  have h1_F1 : F1 9 = .inl (g.2.2 0, 10, .inl (fun j => nI (wh w j))) := by rw [eF1, va_up_ne _ _ (by decide)]; exact h1
  have h2_F1 : F1 10 = .inl (g.2.2 0, 10, .inl (fun j => nI (ln w j))) := by rw [eF1, va_up_ne _ _ (by decide)]; exact h2
  have h3_F1 : F1 11 = .inl (g.2.2 0, 10, .inl (fun j => nI (wo w j))) := by rw [eF1, va_up_ne _ _ (by decide)]; exact h3
  have h4_F1 : F1 12 = .inl (g.2.2 0, 10, .inl (fun j => oI (ti w j))) := by rw [eF1, va_up_ne _ _ (by decide)]; exact h4
  refine lv_aload_n B.1 B.2.1 dX0_undoLast_17 rfl (lv_at hl 1 rfl) ?_
  refine lv_aload_n B.1 B.2.1 dX0_undoLast_18 rfl (lv_at hl 0 rfl) ?_
  refine r_cg B hC (i := 18) (by decide) k18_F1 (C := RX0) (T := TX0) (n := 3) rfl iwX0_undoLast_X0 0 (by decide) (index := 11) flX0_undoLast_11 rfl (v := .ref (ad (19))) rfl dX0_undoLast_19 ?_
  refine lv_aload_n B.1 B.2.1 dX0_undoLast_22 rfl (lv_at hl 0 rfl) ?_
  refine r_calli B hC hl.1 (18) 0 rfl rfl (by decide) k18_F1 (As := []) (ctX0_behindLast l g lo ad (fi := (afi a)) (sz := (asz a - 1)) k18_F1 (by omega) (by omega)) gX0_undoLast_X0_behindLast rfl (n := 0) rfl (by decide +kernel) ⟨Nat.le_of_ble_eq_true rfl, Nat.le_of_ble_eq_true rfl⟩ ⟨Nat.zero_le _, Nat.zero_le _⟩ rfl (Nat.le_of_ble_eq_true rfl) dX0_undoLast_23 (fun r23 F2 H locs hp23 hC => ?_)
  obtain ⟨er, eF⟩ := hp23
  subst er
  rw [eF] at hC
  refine r_cqald B hC (i := 19) (by decide) a1_F1 (j := (((afi a) + (asz a - 1)) % 24)) (by omega) (by decide) (t := ad (20 + 5 * (((afi a) + (asz a - 1)) % 24))) (rfl) dX0_undoLast_26 ?_
  have hj27 : (((afi a) + (asz a - 1)) % 24) < 24 := by omega
  have aLj : LoadC g ad F1 (20 + 5 * (((afi a) + (asz a - 1)) % 24)) (alo a (((afi a) + (asz a - 1)) % 24)) := (aL (((afi a) + (asz a - 1)) % 24) hj27).at (fun i h1 h2 => by rw [eF1, va_up_ne _ _ (by omega)])
  have hLn : LoadC g ad F1 8 w := ⟨h0_F1, h1_F1, h2_F1, h3_F1, h4_F1⟩
  refine r_callv B hC hl.1 (8) 3 rfl rfl (by decide) h0_F1 (As := [.ref (ad (20 + 5 * (((afi a) + (asz a - 1)) % 24)))]) (ctX3_copyFrom l g lo ad (b := 8) (by omega) hLn (b2 := 20 + 5 * (((afi a) + (asz a - 1)) % 24)) (by omega) (by omega) aLj hc (ok.2.2 (((afi a) + (asz a - 1)) % 24) hj27)) gX0_undoLast_X3_copyFrom rfl (n := 1) rfl (by decide +kernel) ⟨Nat.le_of_ble_eq_true rfl, Nat.le_of_ble_eq_true rfl⟩ ⟨Nat.zero_le _, Nat.zero_le _⟩ rfl (Nat.le_of_ble_eq_true rfl) dX0_undoLast_27 (fun F2 H locs hp27 hC => ?_)
  obtain ⟨hLj, hs_F2⟩ := hp27
  have k18_F2 : F2 18 = .inr (0, [.ref (ad (19)), .int (nI (afi a)), .int (nI (asz a - 1))]) := (hs_F2 _ (by omega)).trans k18_F1
  have a1_F2 : F2 19 = .inl (g.2.2 4, 24, .inr (.inr (.inr (.inr (fun k => some (ad (20 + 5 * k))))))) := (hs_F2 _ (by omega)).trans a1_F1
  exact r_eV B hC (⟨⟨k18_F2, a1_F2, fun k hk => (aL k hk).at (fun i h1 h2 => by rw [hs_F2 i (by omega)]; rw [eF1, va_up_ne _ _ (by omega)])⟩, hLj, fun i h1 h2 => by rw [hs_F2 i (by omega)]; rw [eF1, va_up_ne _ _ (by omega)]⟩) dX0_undoLast_30
end
section
/-! SLOTS: two Loads, and which of them are kept -/
abbrev SV : Type := (Nat → LV) × (Nat → Bool)
def slo (v : SV) : Nat → LV := v.1
def sfl (v : SV) : Nat → Bool := v.2
def SlotC (g : Gx) (ad : Nat → Nat) (F : Nat → va_E) (v : SV) : Prop := F 140 = .inr (6, [.ref (ad 141), .ref (ad 142)]) ∧ F 141 = .inl (g.2.2 4, 2, .inr (.inr (.inr (.inr (fun k => some (ad (143 + 5 * k))))))) ∧ F 142 = .inl (g.2.2 3, 2, .inl (fun j => bI (sfl v j))) ∧ ∀ k, k < 2 → LoadC g ad F (143 + 5 * k) (slo v k)
def SOK (v : SV) : Prop := ∀ k, k < 2 → CAN (slo v k)
theorem SlotC.keep {g : Gx} {ad : Nat → Nat} {F F' : Nat → va_E} {v : SV} (h : SlotC g ad F v) (hs : ∀ i, 140 ≤ i → i < 153 → F' i = F i) : SlotC g ad F' v :=
  ⟨by rw [hs _ (by omega) (by omega)]; exact h.1, by rw [hs _ (by omega) (by omega)]; exact h.2.1, by rw [hs _ (by omega) (by omega)]; exact h.2.2.1, fun k hk => (h.2.2.2 k hk).at (fun i h1 h2 => hs i (by omega) (by omega))⟩
theorem slots_upd {g : Gx} {ad : Nat → Nat} {F F' : Nat → va_E} {al : Nat → LV} {j : Nat} {w : LV} (h : ∀ k, k < 2 → LoadC g ad F (143 + 5 * k) (al k)) (hj : LoadC g ad F' (143 + 5 * j) w) (hs : ∀ i, 143 ≤ i → i < 153 → (i < 143 + 5 * j ∨ 148 + 5 * j ≤ i) → F' i = F i) : ∀ k, k < 2 → LoadC g ad F' (143 + 5 * k) (va_up al j w k) := by
  intro k hk
  by_cases e : k = j
  · subst e; rw [va_up_self]; exact hj
  · rw [va_up_ne _ _ e]
    exact (h k hk).at (fun i h1 h2 => hs i (by omega) (by omega) (by omega))
def isS (x : Int32) : Bool := decide (0 ≤ x) && decide (x < nI 2)
theorem isS_t {x : Int32} (q : isS x = true) : ∃ j, j < 2 ∧ x = nI j := by
  simp only [isS, Bool.and_eq_true, decide_eq_true_eq] at q
  have q0 : ¬ x < 0 := fun z => by
    rw [Int32.lt_iff_toInt_lt] at z
    have q1 := Int32.le_iff_toInt_le.mp q.1
    omega
  obtain ⟨j, hj, rfl⟩ := nI_of q0
  exact ⟨j, (nI_ltI hj (by decide)).mp q.2, rfl⟩
theorem isS_n : ∀ j, j < 2 → isS (nI j) = true := by decide
theorem upd_bZ (f : Nat → Bool) (k : Nat) (o : Bool) {z : Int32} (h : z = bI o) : upd (fun j => bI (f j)) k z = fun j => bI (va_up f k o j) := by
  subst h; exact upd_bI f k o
set_option maxHeartbeats 4000000 in
set_option maxRecDepth 100000 in
theorem ctX6_isSlot (l : Launch) (g : Gx) (lo : Nat) (ad : Nat → Nat) {F : Nat → va_E} {x : Int32} : MI l g lo 196 ad yX6_isSlot wsX6_isSlot 0 0 [.ref (ad (140)), .int (x)] F (fun r F' => r = bI (isS x) ∧ F' = F) := by
  refine enter (cc := cX6_isSlot) (maxL := 2) (ret := some .boolean) (own := RX6) (by decide +kernel) rfl rfl (Nat.le_of_ble_eq_true rfl) ?_
  intro pp ee ss mm below meth cc B hini hC ls hl
  have hl : lv_has ls 2 [(0, .ref (ad (140))), (1, .int (x))] := hl
  refine lv_iload_n B.1 B.2.1 dX6_isSlot_0 rfl (lv_at hl 1 rfl) ?_
  refine lv_if_lt (tgt := 13) B.1 B.2.1 dX6_isSlot_1 (by decide) (fun c_1 => ?_) (fun c_1 => ?_)
  · have q : isS x = false := by simp only [isS, Bool.and_eq_false_iff, decide_eq_false_iff_not]; exact Or.inl (fun z => by rw [Int32.le_iff_toInt_le] at z; rw [Int32.lt_iff_toInt_lt] at c_1; omega)
    refine lv_iconst (v := nI 0) B.1 B.2.1 dX6_isSlot_13 (by decide) ?_
    exact r_eZ B hC (v := nI 0) (rfl) (⟨by rw [q]; rfl, rfl⟩) dX6_isSlot_14
  · have q0 : 0 ≤ x := by rw [Int32.le_iff_toInt_le]; rw [Int32.lt_iff_toInt_lt] at c_1; omega
    refine lv_iload_n B.1 B.2.1 dX6_isSlot_4 rfl (lv_at hl 1 rfl) ?_
    refine lv_iconst (v := nI 2) B.1 B.2.1 dX6_isSlot_5 (by decide) ?_
    refine lv_icmp_ge (tgt := 13) B.1 B.2.1 dX6_isSlot_6 (by decide) (fun c_6 => ?_) (fun c_6 => ?_)
    · have q : isS x = false := by simp only [isS, Bool.and_eq_false_iff, decide_eq_false_iff_not]; exact Or.inr (fun z => by rw [Int32.lt_iff_toInt_lt] at z; rw [Int32.le_iff_toInt_le] at c_6; omega)
      refine lv_iconst (v := nI 0) B.1 B.2.1 dX6_isSlot_13 (by decide) ?_
      exact r_eZ B hC (v := nI 0) (rfl) (⟨by rw [q]; rfl, rfl⟩) dX6_isSlot_14
    · have q : isS x = true := by simp only [isS, Bool.and_eq_true, decide_eq_true_eq]; exact ⟨q0, by rw [Int32.lt_iff_toInt_lt]; rw [Int32.le_iff_toInt_le] at c_6; omega⟩
      refine lv_iconst (v := nI 1) B.1 B.2.1 dX6_isSlot_9 (by decide) ?_
      refine lv_goto (tgt := 14) B.1 B.2.1 dX6_isSlot_10 (by decide) ?_
      exact r_eZ B hC (v := nI 1) (rfl) (⟨by rw [q]; rfl, rfl⟩) dX6_isSlot_14
theorem iwX6_isFilled_X6 : ∀ w ∈ u_ws RX6 TX6 2, w ∈ wsX6_isFilled := by decide +kernel
theorem flX6_isFilled_17 : Cond.fieldLink RX6 17 RX6 (TX6 1).2.1 (TX6 1).2.2.1 ∈ wsX6_isFilled := by decide +kernel
set_option maxHeartbeats 4000000 in
set_option maxRecDepth 100000 in
theorem ctX6_isFilled (l : Launch) (g : Gx) (lo : Nat) (ad : Nat → Nat) {F : Nat → va_E} {v : SV} (hS : SlotC g ad F v) (ok : SOK v) {j : Nat} (hj : j < 2) : MI l g lo 196 ad yX6_isFilled wsX6_isFilled 1 21 [.ref (ad (140)), .int (nI j)] F (fun r F' => r = bI (sfl v j) ∧ F' = F) := by
  obtain ⟨s0, s1, s2, sL⟩ := id hS
  refine enter (cc := cX6_isFilled) (maxL := 2) (ret := some .boolean) (own := RX6) (by decide +kernel) rfl rfl (Nat.le_of_ble_eq_true rfl) ?_
  intro pp ee ss mm below meth cc B hini hC ls hl
  have hl : lv_has ls 2 [(0, .ref (ad (140))), (1, .int (nI j))] := hl
  refine lv_aload_n B.1 B.2.1 dX6_isFilled_0 rfl (lv_at hl 0 rfl) ?_
  refine lv_iload_n B.1 B.2.1 dX6_isFilled_1 rfl (lv_at hl 1 rfl) ?_
  refine r_calli B hC hl.1 (140) 6 rfl rfl (by decide) s0 (As := [.int (nI j)]) (ctX6_isSlot l g lo ad (x := nI j)) gX6_isFilled_X6_isSlot rfl (n := 1) rfl (by decide +kernel) ⟨Nat.le_of_ble_eq_true rfl, Nat.le_of_ble_eq_true rfl⟩ ⟨Nat.zero_le _, Nat.zero_le _⟩ rfl (Nat.le_of_ble_eq_true rfl) dX6_isFilled_2 (fun r2 F1 H locs hp2 hC => ?_)
  obtain ⟨er, eF⟩ := hp2
  subst er
  rw [eF] at hC
  refine r_tI (y := bI true) (by rw [isS_n j hj]) ?_
  refine lv_if_eq (tgt := 21) B.1 B.2.1 dX6_isFilled_5 (by decide) (fun z => absurd z (by decide)) (fun _ => ?_)
  refine lv_aload_n B.1 B.2.1 dX6_isFilled_8 rfl (lv_at hl 0 rfl) ?_
  refine r_cg B hC (i := 140) (by decide) s0 (C := RX6) (T := TX6) (n := 2) rfl iwX6_isFilled_X6 1 (by decide) (index := 17) flX6_isFilled_17 rfl (v := .ref (ad (142))) rfl dX6_isFilled_9 ?_
  refine lv_iload_n B.1 B.2.1 dX6_isFilled_12 rfl (lv_at hl 1 rfl) ?_
  refine r_czald B hC (i := 142) (by decide) s2 (j := j) (by omega) (by decide) dX6_isFilled_13 ?_
  refine r_tI (y := bI (sfl v j)) rfl ?_
  refine lv_if_eq (tgt := 21) B.1 B.2.1 dX6_isFilled_14 (by decide) (fun c_14 => ?_) (fun c_14 => ?_)
  · have q_14 : (sfl v j) = false := bI_f.mp c_14
    refine lv_iconst (v := nI 0) B.1 B.2.1 dX6_isFilled_21 (by decide) ?_
    exact r_eZ B hC (v := nI 0) (rfl) (⟨by rw [q_14]; rfl, rfl⟩) dX6_isFilled_22
  · have q_14 : (sfl v j) = true := bI_t.mp c_14
    refine lv_iconst (v := nI 1) B.1 B.2.1 dX6_isFilled_17 (by decide) ?_
    refine lv_goto (tgt := 22) B.1 B.2.1 dX6_isFilled_18 (by decide) ?_
    exact r_eZ B hC (v := nI 1) (rfl) (⟨by rw [q_14]; rfl, rfl⟩) dX6_isFilled_22
theorem iwX6_store_X6 : ∀ w ∈ u_ws RX6 TX6 2, w ∈ wsX6_store := by decide +kernel
theorem flX6_store_11 : Cond.fieldLink RX6 11 RX6 (TX6 0).2.1 (TX6 0).2.2.1 ∈ wsX6_store := by decide +kernel
theorem flX6_store_17 : Cond.fieldLink RX6 17 RX6 (TX6 1).2.1 (TX6 1).2.2.1 ∈ wsX6_store := by decide +kernel
set_option maxHeartbeats 4000000 in
set_option maxRecDepth 100000 in
theorem ctX6_store (l : Launch) (g : Gx) (lo : Nat) (ad : Nat → Nat) {F : Nat → va_E} {v : SV} (hS : SlotC g ad F v) (ok : SOK v) {j : Nat} (hj : j < 2) {w : LV} (hL : LoadC g ad F 8 w) (hc : CAN w) : MV l g lo 196 ad yX6_store wsX6_store 2 61 [.ref (ad (140)), .int (nI j), .ref (ad (8))] F (fun F' => SlotC g ad F' (va_up (slo v) j w, va_up (sfl v) j true) ∧ Same 140 153 F F') := by
  obtain ⟨s0, s1, s2, sL⟩ := id hS
  obtain ⟨h0, h1, h2, h3, h4⟩ := id hL
  refine enter (cc := cX6_store) (maxL := 3) (ret := none) (own := RX6) (by decide +kernel) rfl rfl (Nat.le_of_ble_eq_true rfl) ?_
  intro pp ee ss mm below meth cc B hini hC ls hl
  have hl : lv_has ls 3 [(0, .ref (ad (140))), (1, .int (nI j)), (2, .ref (ad (8)))] := hl
  refine lv_aload_n B.1 B.2.1 dX6_store_0 rfl (lv_at hl 0 rfl) ?_
  refine lv_iload_n B.1 B.2.1 dX6_store_1 rfl (lv_at hl 1 rfl) ?_
  refine r_calli B hC hl.1 (140) 6 rfl rfl (by decide) s0 (As := [.int (nI j)]) (ctX6_isSlot l g lo ad (x := nI j)) gX6_store_X6_isSlot rfl (n := 1) rfl (by decide +kernel) ⟨Nat.le_of_ble_eq_true rfl, Nat.le_of_ble_eq_true rfl⟩ ⟨Nat.zero_le _, Nat.zero_le _⟩ rfl (Nat.le_of_ble_eq_true rfl) dX6_store_2 (fun r2 F1 H locs hp2 hC => ?_)
  obtain ⟨er, eF⟩ := hp2
  subst er
  rw [eF] at hC
  refine r_tI (y := bI true) (by rw [isS_n j hj]) ?_
  refine lv_if_eq (tgt := 25) B.1 B.2.1 dX6_store_5 (by decide) (fun z => absurd z (by decide)) (fun _ => ?_)
  refine lv_aload_n B.1 B.2.1 dX6_store_8 rfl (lv_at hl 0 rfl) ?_
  refine r_cg B hC (i := 140) (by decide) s0 (C := RX6) (T := TX6) (n := 2) rfl iwX6_store_X6 0 (by decide) (index := 11) flX6_store_11 rfl (v := .ref (ad (141))) rfl dX6_store_9 ?_
  refine lv_iload_n B.1 B.2.1 dX6_store_12 rfl (lv_at hl 1 rfl) ?_
  refine r_cqald B hC (i := 141) (by decide) s1 (j := j) (by omega) (by decide) (t := ad (143 + 5 * j)) (rfl) dX6_store_13 ?_
  refine lv_aload_n B.1 B.2.1 dX6_store_14 rfl (lv_at hl 2 rfl) ?_
  have sLj : LoadC g ad F (143 + 5 * j) (slo v j) := sL j hj
  obtain ⟨n0, n1, n2, n3, n4⟩ := id sLj
  refine r_callv B hC hl.1 (143 + 5 * j) 3 rfl rfl (by omega) n0 (As := [.ref (ad (8))]) (ctX3_copyFrom l g lo ad (b := 143 + 5 * j) (by omega) sLj (b2 := 8) (by omega) (by omega) hL (ok j hj) hc) gX6_store_X3_copyFrom rfl (n := 1) rfl (by decide +kernel) ⟨Nat.le_of_ble_eq_true rfl, Nat.le_of_ble_eq_true rfl⟩ ⟨Nat.zero_le _, Nat.zero_le _⟩ rfl (Nat.le_of_ble_eq_true rfl) dX6_store_15 (fun F1 H locs hp15 hC => ?_)
  obtain ⟨hLj, hs_F1⟩ := hp15
  have s0_F1 : F1 140 = .inr (6, [.ref (ad (141)), .ref (ad (142))]) := (hs_F1 _ (by omega)).trans s0
  have s1_F1 : F1 141 = .inl (g.2.2 4, 2, .inr (.inr (.inr (.inr (fun k => some (ad (143 + 5 * k))))))) := (hs_F1 _ (by omega)).trans s1
  have s2_F1 : F1 142 = .inl (g.2.2 3, 2, .inl (fun j => bI (sfl v j))) := (hs_F1 _ (by omega)).trans s2
  refine lv_aload_n B.1 B.2.1 dX6_store_18 rfl (lv_at hl 0 rfl) ?_
  refine r_cg B hC (i := 140) (by decide) s0_F1 (C := RX6) (T := TX6) (n := 2) rfl iwX6_store_X6 1 (by decide) (index := 17) flX6_store_17 rfl (v := .ref (ad (142))) rfl dX6_store_19 ?_
  refine lv_iload_n B.1 B.2.1 dX6_store_22 rfl (lv_at hl 1 rfl) ?_
  refine lv_iconst (v := nI 1) B.1 B.2.1 dX6_store_23 (by decide) ?_
  refine r_czast B hC (i := 142) (by decide) s2_F1 (j := j) (by omega) (by decide) dX6_store_24 ?_
  intro H locs hC
  obtain ⟨F2, eF2⟩ : ∃ f : Nat → va_E, f = va_up F1 (142) (.inl (g.2.2 3, 2, .inl (fun k => bI (va_up (sfl v) j true k)))) := ⟨_, rfl⟩
  have hC : Cu g lo 196 ad F2 ss ss.heap H locs := by rw [eF2]; exact (by rw [← upd_bZ (sfl v) j true rfl]; exact hC)
  have k142_F2 : F2 142 = .inl (g.2.2 3, 2, .inl (fun k => bI (va_up (sfl v) j true k))) := by rw [eF2]; exact va_up_self _ _ _
  have s0_F2 : F2 140 = .inr (6, [.ref (ad (141)), .ref (ad (142))]) := by rw [eF2, va_up_ne _ _ (by decide)]; exact s0_F1
  have s1_F2 : F2 141 = .inl (g.2.2 4, 2, .inr (.inr (.inr (.inr (fun k => some (ad (143 + 5 * k))))))) := by rw [eF2, va_up_ne _ _ (by decide)]; exact s1_F1
  exact r_eV B hC (⟨⟨s0_F2, s1_F2, k142_F2, slots_upd (j := j) sL (LoadC.at hLj (fun i h1 h2 => by rw [eF2, va_up_ne _ _ (by omega)])) (fun i h1 h2 h3 => by rw [eF2, va_up_ne _ _ (by omega)]; rw [hs_F1 i (by omega)])⟩, fun i h1 => by rw [eF2, va_up_ne _ _ (by omega)]; rw [hs_F1 i (by omega)]⟩) dX6_store_25
theorem iwX6_bringBack_X6 : ∀ w ∈ u_ws RX6 TX6 2, w ∈ wsX6_bringBack := by decide +kernel
theorem flX6_bringBack_11 : Cond.fieldLink RX6 11 RX6 (TX6 0).2.1 (TX6 0).2.2.1 ∈ wsX6_bringBack := by decide +kernel
set_option maxHeartbeats 4000000 in
set_option maxRecDepth 100000 in
theorem ctX6_bringBack (l : Launch) (g : Gx) (lo : Nat) (ad : Nat → Nat) {F : Nat → va_E} {v : SV} (hS : SlotC g ad F v) (ok : SOK v) {j : Nat} (hj : j < 2) (hfl : sfl v j = true) {w : LV} (hL : LoadC g ad F 8 w) (hc : CAN w) : MV l g lo 196 ad yX6_bringBack wsX6_bringBack 2 61 [.ref (ad (140)), .int (nI j), .ref (ad (8))] F (fun F' => LoadC g ad F' 8 (slo v j) ∧ Same 8 13 F F') := by
  obtain ⟨s0, s1, s2, sL⟩ := id hS
  obtain ⟨h0, h1, h2, h3, h4⟩ := id hL
  refine enter (cc := cX6_bringBack) (maxL := 3) (ret := none) (own := RX6) (by decide +kernel) rfl rfl (Nat.le_of_ble_eq_true rfl) ?_
  intro pp ee ss mm below meth cc B hini hC ls hl
  have hl : lv_has ls 3 [(0, .ref (ad (140))), (1, .int (nI j)), (2, .ref (ad (8)))] := hl
  refine lv_aload_n B.1 B.2.1 dX6_bringBack_0 rfl (lv_at hl 0 rfl) ?_
  refine lv_iload_n B.1 B.2.1 dX6_bringBack_1 rfl (lv_at hl 1 rfl) ?_
  refine r_calli B hC hl.1 (140) 6 rfl rfl (by decide) s0 (As := [.int (nI j)]) (ctX6_isFilled l g lo ad hS ok (j := j) hj) gX6_bringBack_X6_isFilled rfl (n := 1) rfl (by decide +kernel) ⟨Nat.le_of_ble_eq_true rfl, Nat.le_of_ble_eq_true rfl⟩ ⟨Nat.zero_le _, Nat.zero_le _⟩ rfl (Nat.le_of_ble_eq_true rfl) dX6_bringBack_2 (fun r2 F1 H locs hp2 hC => ?_)
  obtain ⟨er, eF⟩ := hp2
  subst er
  rw [eF] at hC
  refine lv_if_eq (tgt := 18) B.1 B.2.1 dX6_bringBack_5 (by decide) (fun z => absurd z (by rw [hfl]; decide)) (fun _ => ?_)
  refine lv_aload_n B.1 B.2.1 dX6_bringBack_8 rfl (lv_at hl 2 rfl) ?_
  refine lv_aload_n B.1 B.2.1 dX6_bringBack_9 rfl (lv_at hl 0 rfl) ?_
  refine r_cg B hC (i := 140) (by decide) s0 (C := RX6) (T := TX6) (n := 2) rfl iwX6_bringBack_X6 0 (by decide) (index := 11) flX6_bringBack_11 rfl (v := .ref (ad (141))) rfl dX6_bringBack_10 ?_
  refine lv_iload_n B.1 B.2.1 dX6_bringBack_13 rfl (lv_at hl 1 rfl) ?_
  refine r_cqald B hC (i := 141) (by decide) s1 (j := j) (by omega) (by decide) (t := ad (143 + 5 * j)) (rfl) dX6_bringBack_14 ?_
  have sLj : LoadC g ad F (143 + 5 * j) (slo v j) := sL j hj
  obtain ⟨n0, n1, n2, n3, n4⟩ := id sLj
  refine r_callv B hC hl.1 (8) 3 rfl rfl (by decide) h0 (As := [.ref (ad (143 + 5 * j))]) (ctX3_copyFrom l g lo ad (b := 8) (by omega) hL (b2 := 143 + 5 * j) (by omega) (by omega) sLj hc (ok j hj)) gX6_bringBack_X3_copyFrom rfl (n := 1) rfl (by decide +kernel) ⟨Nat.le_of_ble_eq_true rfl, Nat.le_of_ble_eq_true rfl⟩ ⟨Nat.zero_le _, Nat.zero_le _⟩ rfl (Nat.le_of_ble_eq_true rfl) dX6_bringBack_15 (fun F1 H locs hp15 hC => ?_)
  obtain ⟨hLj, hs_F1⟩ := hp15
  have s0_F1 : F1 140 = .inr (6, [.ref (ad (141)), .ref (ad (142))]) := (hs_F1 _ (by omega)).trans s0
  have s1_F1 : F1 141 = .inl (g.2.2 4, 2, .inr (.inr (.inr (.inr (fun k => some (ad (143 + 5 * k))))))) := (hs_F1 _ (by omega)).trans s1
  have s2_F1 : F1 142 = .inl (g.2.2 3, 2, .inl (fun j => bI (sfl v j))) := (hs_F1 _ (by omega)).trans s2
  exact r_eV B hC (⟨hLj, hs_F1⟩) dX6_bringBack_18
theorem iwX6_forgetAll_X6 : ∀ w ∈ u_ws RX6 TX6 2, w ∈ wsX6_forgetAll := by decide +kernel
theorem flX6_forgetAll_17 : Cond.fieldLink RX6 17 RX6 (TX6 1).2.1 (TX6 1).2.2.1 ∈ wsX6_forgetAll := by decide +kernel
set_option maxHeartbeats 4000000 in
set_option maxRecDepth 100000 in
theorem ctX6_forgetAll (l : Launch) (g : Gx) (lo : Nat) (ad : Nat → Nat) {F : Nat → va_E} {v : SV} (hS : SlotC g ad F v) (ok : SOK v) : MV l g lo 196 ad yX6_forgetAll wsX6_forgetAll 0 0 [.ref (ad (140))] F (fun F' => SlotC g ad F' (slo v, va_up (va_up (sfl v) 0 false) 1 false) ∧ Same 140 153 F F') := by
  obtain ⟨s0, s1, s2, sL⟩ := id hS
  refine enter (cc := cX6_forgetAll) (maxL := 2) (ret := none) (own := RX6) (by decide +kernel) rfl rfl (Nat.le_of_ble_eq_true rfl) ?_
  intro pp ee ss mm below meth cc B hini hC ls hl
  have hl : lv_has ls 2 [(0, .ref (ad (140)))] := hl
  refine lv_iconst (v := nI 0) B.1 B.2.1 dX6_forgetAll_0 (by decide) ?_
  refine lv_istore_n (lv' := [(1, .int (nI 0)), (0, .ref (ad (140)))]) B.1 B.2.1 dX6_forgetAll_1 rfl hl (by decide) rfl (fun ls hl => ?_)
  refine lv_iload_n B.1 B.2.1 dX6_forgetAll_2 rfl (lv_at hl 0 rfl) ?_
  refine lv_iconst (v := nI 2) B.1 B.2.1 dX6_forgetAll_3 (by decide) ?_
  refine lv_icmp_ge (tgt := 20) B.1 B.2.1 dX6_forgetAll_4 (by decide) (fun z => absurd z (nI_ge (by omega) (by omega))) (fun _ => ?_)
  refine lv_aload_n B.1 B.2.1 dX6_forgetAll_7 rfl (lv_at hl 1 rfl) ?_
  refine r_cg B hC (i := 140) (by decide) s0 (C := RX6) (T := TX6) (n := 2) rfl iwX6_forgetAll_X6 1 (by decide) (index := 17) flX6_forgetAll_17 rfl (v := .ref (ad (142))) rfl dX6_forgetAll_8 ?_
  refine lv_iload_n B.1 B.2.1 dX6_forgetAll_11 rfl (lv_at hl 0 rfl) ?_
  refine lv_iconst (v := nI 0) B.1 B.2.1 dX6_forgetAll_12 (by decide) ?_
  refine r_czast B hC (i := 142) (by decide) s2 (j := 0) (by omega) (by decide) dX6_forgetAll_13 ?_
  intro H locs hC
  obtain ⟨F1, eF1⟩ : ∃ f : Nat → va_E, f = va_up F (142) (.inl (g.2.2 3, 2, .inl (fun k => bI (va_up (sfl v) 0 false k)))) := ⟨_, rfl⟩
  have hC : Cu g lo 196 ad F1 ss ss.heap H locs := by rw [eF1]; exact (by rw [← upd_bZ (sfl v) 0 false rfl]; exact hC)
  have k142_F1 : F1 142 = .inl (g.2.2 3, 2, .inl (fun k => bI (va_up (sfl v) 0 false k))) := by rw [eF1]; exact va_up_self _ _ _
  have s0_F1 : F1 140 = .inr (6, [.ref (ad (141)), .ref (ad (142))]) := by rw [eF1, va_up_ne _ _ (by decide)]; exact s0
  have s1_F1 : F1 141 = .inl (g.2.2 4, 2, .inr (.inr (.inr (.inr (fun k => some (ad (143 + 5 * k))))))) := by rw [eF1, va_up_ne _ _ (by decide)]; exact s1
  refine lv_iinc (v := nI 1) (lv' := [(1, .int (nI 1)), (0, .ref (ad (140)))]) B.1 B.2.1 dX6_forgetAll_14 hl (k := 0) rfl (by decide) (by decide) rfl (fun ls hl => ?_)
  refine lv_goto (tgt := 2) B.1 B.2.1 dX6_forgetAll_17 (by decide) ?_
  refine lv_iload_n B.1 B.2.1 dX6_forgetAll_2 rfl (lv_at hl 0 rfl) ?_
  refine lv_iconst (v := nI 2) B.1 B.2.1 dX6_forgetAll_3 (by decide) ?_
  refine lv_icmp_ge (tgt := 20) B.1 B.2.1 dX6_forgetAll_4 (by decide) (fun z => absurd z (nI_ge (by omega) (by omega))) (fun _ => ?_)
  refine lv_aload_n B.1 B.2.1 dX6_forgetAll_7 rfl (lv_at hl 1 rfl) ?_
  refine r_cg B hC (i := 140) (by decide) s0_F1 (C := RX6) (T := TX6) (n := 2) rfl iwX6_forgetAll_X6 1 (by decide) (index := 17) flX6_forgetAll_17 rfl (v := .ref (ad (142))) rfl dX6_forgetAll_8 ?_
  refine lv_iload_n B.1 B.2.1 dX6_forgetAll_11 rfl (lv_at hl 0 rfl) ?_
  refine lv_iconst (v := nI 0) B.1 B.2.1 dX6_forgetAll_12 (by decide) ?_
  refine r_czast B hC (i := 142) (by decide) k142_F1 (j := 1) (by omega) (by decide) dX6_forgetAll_13 ?_
  intro H locs hC
  obtain ⟨F2, eF2⟩ : ∃ f : Nat → va_E, f = va_up F1 (142) (.inl (g.2.2 3, 2, .inl (fun k => bI (va_up (va_up (sfl v) 0 false) 1 false k)))) := ⟨_, rfl⟩
  have hC : Cu g lo 196 ad F2 ss ss.heap H locs := by rw [eF2]; exact (by rw [← upd_bZ (va_up (sfl v) 0 false) 1 false rfl]; exact hC)
  have k142_F2 : F2 142 = .inl (g.2.2 3, 2, .inl (fun k => bI (va_up (va_up (sfl v) 0 false) 1 false k))) := by rw [eF2]; exact va_up_self _ _ _
  have s0_F2 : F2 140 = .inr (6, [.ref (ad (141)), .ref (ad (142))]) := by rw [eF2, va_up_ne _ _ (by decide)]; exact s0_F1
  have s1_F2 : F2 141 = .inl (g.2.2 4, 2, .inr (.inr (.inr (.inr (fun k => some (ad (143 + 5 * k))))))) := by rw [eF2, va_up_ne _ _ (by decide)]; exact s1_F1
  refine lv_iinc (v := nI 2) (lv' := [(1, .int (nI 2)), (0, .ref (ad (140)))]) B.1 B.2.1 dX6_forgetAll_14 hl (k := 0) rfl (by decide) (by decide) rfl (fun ls hl => ?_)
  refine lv_goto (tgt := 2) B.1 B.2.1 dX6_forgetAll_17 (by decide) ?_
  refine lv_iload_n B.1 B.2.1 dX6_forgetAll_2 rfl (lv_at hl 0 rfl) ?_
  refine lv_iconst (v := nI 2) B.1 B.2.1 dX6_forgetAll_3 (by decide) ?_
  refine lv_icmp_ge (tgt := 20) B.1 B.2.1 dX6_forgetAll_4 (by decide) (fun _ => ?_) (fun z => absurd (nI_le (by omega) (by omega)) z)
  exact r_eV B hC (⟨⟨s0_F2, s1_F2, k142_F2, fun k hk => (sL k hk).at (fun i h1 h2 => by rw [eF2, va_up_ne _ _ (by omega)]; rw [eF1, va_up_ne _ _ (by omega)])⟩, fun i h1 => by rw [eF2, va_up_ne _ _ (by omega)]; rw [eF1, va_up_ne _ _ (by omega)]⟩) dX6_forgetAll_20
end
section
/-! CHANCES: in how many ways LEAK is so much -/
abbrev CV : Type := (Nat → Nat) × Nat
def cw (c : CV) : Nat → Nat := c.1
def ca (c : CV) : Nat := c.2
def ChC (g : Gx) (ad : Nat → Nat) (F : Nat → va_E) (c : CV) : Prop := F 153 = .inr (1, [.ref (ad 154), .long (lN (ca c))]) ∧ F 154 = .inl (g.2.2 2, 91, .inr (.inl (fun j => lN (cw c j))))
theorem ChC.keep {g : Gx} {ad : Nat → Nat} {F F' : Nat → va_E} {c : CV} {x y : Nat} (h : ChC g ad F c) (hs : Same x y F F') (hd : 155 ≤ x ∨ y ≤ 153) : ChC g ad F' c := ⟨by rw [hs _ (by omega)]; exact h.1, by rw [hs _ (by omega)]; exact h.2⟩
theorem upd_lN (f : Nat → Nat) (k x : Nat) : vp_updL (fun j => lN (f j)) k (lN x) = fun j => lN (va_up f k x j) := by
  funext j
  by_cases h : j = k
  · subst h; simp [vp_updL, va_up]
  · simp [vp_updL, va_up, h]
theorem nI_sub_lt0 {a b : Nat} (ha : a < 2 ^ 30) (hb : b < 2 ^ 30) : nI a - nI b < 0 ↔ a < b := by
  rw [Int32.lt_iff_toInt_lt, pk_sub_toInt ha hb, Int32.toInt_zero]; omega
def sumTo (f : Nat → Nat) : Nat → Nat
  | 0 => 0
  | n + 1 => sumTo f n + f n
/-- one timber more, torn out in x ways of ten -/
def tearV (f : Nat → Nat) (d x i : Nat) : Nat := f i * (10 - x) + (if d ≤ i then f (i - d) * x else 0)
theorem iwX1_all_X1 : ∀ w ∈ u_ws RX1 TX1 2, w ∈ wsX1_all := by decide +kernel
theorem flX1_all_15 : Cond.fieldLink RX1 15 RX1 (TX1 1).2.1 (TX1 1).2.2.1 ∈ wsX1_all := by decide +kernel
set_option maxHeartbeats 4000000 in
set_option maxRecDepth 100000 in
theorem ctX1_all (l : Launch) (g : Gx) (lo : Nat) (ad : Nat → Nat) {F : Nat → va_E} {c : CV} (hC0 : ChC g ad F c) : ML l g lo 196 ad yX1_all wsX1_all 0 0 [.ref (ad (153))] F (fun r F' => r = lN (ca c) ∧ F' = F) := by
  obtain ⟨c0, c1⟩ := id hC0
  refine enter (cc := cX1_all) (maxL := 1) (ret := some .long) (own := RX1) (by decide +kernel) rfl rfl (Nat.le_of_ble_eq_true rfl) ?_
  intro pp ee ss mm below meth cc B hini hC ls hl
  have hl : lv_has ls 1 [(0, .ref (ad (153)))] := hl
  refine lv_aload_n B.1 B.2.1 dX1_all_0 rfl (lv_at hl 0 rfl) ?_
  refine r_cg B hC (i := 153) (by decide) c0 (C := RX1) (T := TX1) (n := 2) rfl iwX1_all_X1 1 (by decide) (index := 15) flX1_all_15 rfl (v := .long (lN (ca c))) rfl dX1_all_1 ?_
  exact r_eL B hC (v := lN (ca c)) (⟨rfl, rfl⟩) dX1_all_4
theorem iwX1_begin_X1 : ∀ w ∈ u_ws RX1 TX1 2, w ∈ wsX1_begin := by decide +kernel
theorem flX1_begin_9 : Cond.fieldLink RX1 9 RX1 (TX1 0).2.1 (TX1 0).2.2.1 ∈ wsX1_begin := by decide +kernel
theorem flX1_begin_15 : Cond.fieldLink RX1 15 RX1 (TX1 1).2.1 (TX1 1).2.2.1 ∈ wsX1_begin := by decide +kernel
set_option maxHeartbeats 4000000 in
set_option maxRecDepth 100000 in
theorem ctX1_begin (l : Launch) (g : Gx) (lo : Nat) (ad : Nat → Nat) {F : Nat → va_E} {c : CV} (hC0 : ChC g ad F c) {x : Nat} (hx : x ≤ 90) : MV l g lo 196 ad yX1_begin wsX1_begin 0 0 [.ref (ad (153)), .int (nI x)] F (fun F' => ∃ c', ChC g ad F' c' ∧ (∀ j, j < 91 → cw c' j = if j = x then 1 else 0) ∧ ca c' = 1 ∧ Same 153 155 F F') := by
  obtain ⟨c0, c1⟩ := id hC0
  refine enter (cc := cX1_begin) (maxL := 3) (ret := none) (own := RX1) (by decide +kernel) rfl rfl (Nat.le_of_ble_eq_true rfl) ?_
  intro pp ee ss mm below meth cc B hini hC ls hl
  have hl : lv_has ls 3 [(0, .ref (ad (153))), (1, .int (nI x))] := hl
  refine lv_iconst (v := nI 0) B.1 B.2.1 dX1_begin_0 (by decide) ?_
  refine lv_istore_n (lv' := [(2, .int (nI 0)), (0, .ref (ad (153))), (1, .int (nI x))]) B.1 B.2.1 dX1_begin_1 rfl hl (by decide) rfl (fun ls hl => ?_)
  have loop2 : ∀ (k : Nat) (i : Nat) (u : CV) (G : Nat → va_E), (i + k = 91) → (ChC g ad G u) → (∀ j, j < i → cw u j = if j = x then 1 else 0) → (Same 153 155 F G) → ∀ (H : Heap) (locs : List Loc) (ls : Array Slot), Cu g lo 196 ad G ss ss.heap H locs → lv_has ls 3 [(2, .int (nI i)), (0, .ref (ad (153))), (1, .int (nI x))] → W pp l ee { frames := 0, cells := 0, slots := 0, locals := 0 } ss mm ([.ref (ad (153)), .int (nI x)] : List Value).toArray below meth cc H locs 0 0 (MQ below (va_Qv (fun F' => ∃ c', ChC g ad F' c' ∧ (∀ j, j < 91 → cw c' j = if j = x then 1 else 0) ∧ ca c' = 1 ∧ Same 153 155 F F') (fun F' t => Wd g lo 196 ad F' t) (fun q => lo ≤ q)) ([.ref (ad (153)), .int (nI x)] : List Value).toArray ss 0 0 (fun q => lo ≤ q)) (F0 mm 2 ls []) := by
    intro k
    induction k with
    | zero =>
      intro i u G hik hG hu hs H locs ls hC hl
      obtain ⟨c0, c1⟩ := id hG
      refine lv_iload_n B.1 B.2.1 dX1_begin_2 rfl (lv_at hl 0 rfl) ?_
      refine lv_aload_n B.1 B.2.1 dX1_begin_3 rfl (lv_at hl 1 rfl) ?_
      refine r_cg B hC (i := 153) (by decide) c0 (C := RX1) (T := TX1) (n := 2) rfl iwX1_begin_X1 0 (by decide) (index := 9) flX1_begin_9 rfl (v := .ref (ad (154))) rfl dX1_begin_4 ?_
      refine r_calen B hC (i := 154) (by decide) c1 2 rfl (n := 91) rfl dX1_begin_7 ?_
      refine lv_icmp_ge (tgt := 33) B.1 B.2.1 dX1_begin_8 (by decide) (fun _ => ?_) (fun z => absurd (nI_le (by omega) (by omega)) z)
      refine lv_aload_n B.1 B.2.1 dX1_begin_33 rfl (lv_at hl 1 rfl) ?_
      refine lv_lconst (v := lN 1) B.1 B.2.1 dX1_begin_34 (by decide) ?_
      refine r_cp B hC (i := 153) (by decide) c0 tyX1 tyX1_ok nmX1 (C := RX1) (T := TX1) rfl iwX1_begin_X1 1 (by decide) (index := 15) flX1_begin_15 rfl rfl (v := .long (lN 1)) (rfl) (rfl) (Nat.le_of_ble_eq_true rfl) dX1_begin_35 ?_
      intro H locs hC
      obtain ⟨F21, eF21⟩ : ∃ f : Nat → va_E, f = va_up G (153) (.inr (1, [.ref (ad (154)), .long (lN 1)])) := ⟨_, rfl⟩
      have hC : Cu g lo 196 ad F21 ss ss.heap H locs := by rw [eF21]; exact hC
      have k153_F21 : F21 153 = .inr (1, [.ref (ad (154)), .long (lN 1)]) := by rw [eF21]; exact va_up_self _ _ _
      have c1_F21 : F21 154 = .inl (g.2.2 2, 91, .inr (.inl (fun j => lN (cw u j)))) := by rw [eF21, va_up_ne _ _ (by decide)]; exact c1
      exact r_eV B hC (⟨(cw u, 1), ⟨k153_F21, c1_F21⟩, fun j hj => hu j (by omega), rfl, (by rw [eF21]; exact Same.up (Same.wide hs (by omega) (by omega)) (by omega) (by omega))⟩) dX1_begin_38
    | succ k ih2 =>
      intro i u G hik hG hu hs H locs ls hC hl
      obtain ⟨c0, c1⟩ := id hG
      refine lv_iload_n B.1 B.2.1 dX1_begin_2 rfl (lv_at hl 0 rfl) ?_
      refine lv_aload_n B.1 B.2.1 dX1_begin_3 rfl (lv_at hl 1 rfl) ?_
      refine r_cg B hC (i := 153) (by decide) c0 (C := RX1) (T := TX1) (n := 2) rfl iwX1_begin_X1 0 (by decide) (index := 9) flX1_begin_9 rfl (v := .ref (ad (154))) rfl dX1_begin_4 ?_
      refine r_calen B hC (i := 154) (by decide) c1 2 rfl (n := 91) rfl dX1_begin_7 ?_
      refine lv_icmp_ge (tgt := 33) B.1 B.2.1 dX1_begin_8 (by decide) (fun z => absurd z (nI_ge (by omega) (by omega))) (fun _ => ?_)
      refine lv_aload_n B.1 B.2.1 dX1_begin_11 rfl (lv_at hl 1 rfl) ?_
      refine r_cg B hC (i := 153) (by decide) c0 (C := RX1) (T := TX1) (n := 2) rfl iwX1_begin_X1 0 (by decide) (index := 9) flX1_begin_9 rfl (v := .ref (ad (154))) rfl dX1_begin_12 ?_
      refine lv_iload_n B.1 B.2.1 dX1_begin_15 rfl (lv_at hl 0 rfl) ?_
      refine lv_iload_n B.1 B.2.1 dX1_begin_16 rfl (lv_at hl 0 rfl) ?_
      refine lv_iload_n B.1 B.2.1 dX1_begin_17 rfl (lv_at hl 2 rfl) ?_
      refine lv_icmp_ne (tgt := 25) B.1 B.2.1 dX1_begin_18 (by decide) (fun c_18 => ?_) (fun c_18 => ?_)
      · have q_18 : ¬ i = x := fun z => c_18 ((nI_eq (by omega) (by omega)).mpr z)
        refine lv_lconst (v := lN 0) B.1 B.2.1 dX1_begin_25 (by decide) ?_
        refine r_clast B hC (i := 154) (by decide) c1 (j := i) (by omega) (by decide) dX1_begin_26 ?_
        intro H locs hC
        obtain ⟨F21, eF21⟩ : ∃ f : Nat → va_E, f = va_up G (154) (.inl (g.2.2 2, 91, .inr (.inl (fun j => lN (va_up (cw u) i 0 j))))) := ⟨_, rfl⟩
        have hC : Cu g lo 196 ad F21 ss ss.heap H locs := by rw [eF21]; exact (by rw [← upd_lN (cw u) i 0]; exact hC)
        have k154_F21 : F21 154 = .inl (g.2.2 2, 91, .inr (.inl (fun j => lN (va_up (cw u) i 0 j)))) := by rw [eF21]; exact va_up_self _ _ _
        have c0_F21 : F21 153 = .inr (1, [.ref (ad (154)), .long (lN (ca u))]) := by rw [eF21, va_up_ne _ _ (by decide)]; exact c0
        refine lv_iinc (v := nI (i + 1)) (lv' := [(2, .int (nI (i + 1))), (0, .ref (ad (153))), (1, .int (nI x))]) B.1 B.2.1 dX1_begin_27 hl (k := 0) rfl (nI_1 _) (by decide) rfl (fun ls hl => ?_)
        refine lv_goto (tgt := 2) B.1 B.2.1 dX1_begin_30 (by decide) ?_
        exact ih2 (i + 1) (va_up (cw u) i 0, ca u) F21 (by omega) ⟨c0_F21, k154_F21⟩ (fun j hj => by
  by_cases e : j = i
  · show va_up (cw u) i 0 j = _
    rw [e, va_up_self, if_neg (by omega)]
  · show va_up (cw u) i 0 j = _
    rw [va_up_ne _ _ e]; exact hu j (by omega)) (by rw [eF21]; exact Same.up (Same.wide hs (by omega) (by omega)) (by omega) (by omega)) _ _ ls hC (lv_sub hl [0, 1, 2] rfl)
      · have q_18 : i = x := (nI_eq (by omega) (by omega)).mp c_18
        refine lv_lconst (v := lN 1) B.1 B.2.1 dX1_begin_21 (by decide) ?_
        refine lv_goto (tgt := 26) B.1 B.2.1 dX1_begin_22 (by decide) ?_
        refine r_clast B hC (i := 154) (by decide) c1 (j := i) (by omega) (by decide) dX1_begin_26 ?_
        intro H locs hC
        obtain ⟨F21, eF21⟩ : ∃ f : Nat → va_E, f = va_up G (154) (.inl (g.2.2 2, 91, .inr (.inl (fun j => lN (va_up (cw u) i 1 j))))) := ⟨_, rfl⟩
        have hC : Cu g lo 196 ad F21 ss ss.heap H locs := by rw [eF21]; exact (by rw [← upd_lN (cw u) i 1]; exact hC)
        have k154_F21 : F21 154 = .inl (g.2.2 2, 91, .inr (.inl (fun j => lN (va_up (cw u) i 1 j)))) := by rw [eF21]; exact va_up_self _ _ _
        have c0_F21 : F21 153 = .inr (1, [.ref (ad (154)), .long (lN (ca u))]) := by rw [eF21, va_up_ne _ _ (by decide)]; exact c0
        refine lv_iinc (v := nI (i + 1)) (lv' := [(2, .int (nI (i + 1))), (0, .ref (ad (153))), (1, .int (nI x))]) B.1 B.2.1 dX1_begin_27 hl (k := 0) rfl (nI_1 _) (by decide) rfl (fun ls hl => ?_)
        refine lv_goto (tgt := 2) B.1 B.2.1 dX1_begin_30 (by decide) ?_
        exact ih2 (i + 1) (va_up (cw u) i 1, ca u) F21 (by omega) ⟨c0_F21, k154_F21⟩ (fun j hj => by
  by_cases e : j = i
  · show va_up (cw u) i 1 j = _
    rw [e, va_up_self, if_pos (by omega)]
  · show va_up (cw u) i 1 j = _
    rw [va_up_ne _ _ e]; exact hu j (by omega)) (by rw [eF21]; exact Same.up (Same.wide hs (by omega) (by omega)) (by omega) (by omega)) _ _ ls hC (lv_sub hl [0, 1, 2] rfl)
  exact loop2 91 0 c F (by decide) hC0 (fun j hj => absurd hj (by omega)) Same.rf _ _ ls hC (lv_sub hl [0, 1, 2] rfl)
theorem iwX1_tearOut_X1 : ∀ w ∈ u_ws RX1 TX1 2, w ∈ wsX1_tearOut := by decide +kernel
theorem flX1_tearOut_9 : Cond.fieldLink RX1 9 RX1 (TX1 0).2.1 (TX1 0).2.2.1 ∈ wsX1_tearOut := by decide +kernel
theorem flX1_tearOut_15 : Cond.fieldLink RX1 15 RX1 (TX1 1).2.1 (TX1 1).2.2.1 ∈ wsX1_tearOut := by decide +kernel
set_option maxHeartbeats 4000000 in
set_option maxRecDepth 100000 in
theorem ctX1_tearOut (l : Launch) (g : Gx) (lo : Nat) (ad : Nat → Nat) {F : Nat → va_E} {c : CV} (hC0 : ChC g ad F c) {d x : Nat} (hd : d ≤ 9) (hx : x ≤ 10) : MV l g lo 196 ad yX1_tearOut wsX1_tearOut 0 0 [.ref (ad (153)), .int (nI d), .int (nI x)] F (fun F' => ∃ c', ChC g ad F' c' ∧ (∀ j, j < 91 → cw c' j = tearV (cw c) d x j) ∧ ca c' = ca c * 10 ∧ Same 153 155 F F') := by
  obtain ⟨c0, c1⟩ := id hC0
  refine enter (cc := cX1_tearOut) (maxL := 7) (ret := none) (own := RX1) (by decide +kernel) rfl rfl (Nat.le_of_ble_eq_true rfl) ?_
  intro pp ee ss mm below meth cc B hini hC ls hl
  have hl : lv_has ls 7 [(0, .ref (ad (153))), (1, .int (nI d)), (2, .int (nI x))] := hl
  refine lv_aload_n B.1 B.2.1 dX1_tearOut_0 rfl (lv_at hl 0 rfl) ?_
  refine r_cg B hC (i := 153) (by decide) c0 (C := RX1) (T := TX1) (n := 2) rfl iwX1_tearOut_X1 0 (by decide) (index := 9) flX1_tearOut_9 rfl (v := .ref (ad (154))) rfl dX1_tearOut_1 ?_
  refine r_calen B hC (i := 154) (by decide) c1 2 rfl (n := 91) rfl dX1_tearOut_4 ?_
  refine lv_iconst (v := nI 1) B.1 B.2.1 dX1_tearOut_5 (by decide) ?_
  refine lv_isub B.1 B.2.1 dX1_tearOut_6 ?_
  refine r_tI (y := nI 91 - nI 1) (rfl) ?_
  refine lv_istore_n (lv' := [(3, .int (nI 91 - nI 1)), (0, .ref (ad (153))), (1, .int (nI d)), (2, .int (nI x))]) B.1 B.2.1 dX1_tearOut_7 rfl hl (by decide) rfl (fun ls hl => ?_)
  have loop8 : ∀ (k : Nat) (u : CV) (G : Nat → va_E), (k ≤ 91) → (ChC g ad G u) → (∀ j, j < 91 → cw u j = if k ≤ j then tearV (cw c) d x j else cw c j) → (ca u = ca c) → (Same 153 155 F G) → ∀ (H : Heap) (locs : List Loc) (ls : Array Slot), Cu g lo 196 ad G ss ss.heap H locs → lv_has ls 7 [(3, .int (nI k - nI 1)), (0, .ref (ad (153))), (1, .int (nI d)), (2, .int (nI x))] → W pp l ee { frames := 0, cells := 0, slots := 0, locals := 0 } ss mm ([.ref (ad (153)), .int (nI d), .int (nI x)] : List Value).toArray below meth cc H locs 0 0 (MQ below (va_Qv (fun F' => ∃ c', ChC g ad F' c' ∧ (∀ j, j < 91 → cw c' j = tearV (cw c) d x j) ∧ ca c' = ca c * 10 ∧ Same 153 155 F F') (fun F' t => Wd g lo 196 ad F' t) (fun q => lo ≤ q)) ([.ref (ad (153)), .int (nI d), .int (nI x)] : List Value).toArray ss 0 0 (fun q => lo ≤ q)) (F0 mm 8 ls []) := by
    intro k
    induction k with
    | zero =>
      intro u G hk91 hG hu hca hs H locs ls hC hl
      obtain ⟨c0, c1⟩ := id hG
      have hl : lv_has ls 7 [(3, .int (-1)), (0, .ref (ad (153))), (1, .int (nI d)), (2, .int (nI x))] := by rw [show nI 0 - nI 1 = -1 from by decide] at hl; exact hl
      refine lv_iload_n B.1 B.2.1 dX1_tearOut_8 rfl (lv_at hl 0 rfl) ?_
      refine lv_if_lt (tgt := 75) B.1 B.2.1 dX1_tearOut_9 (by decide) (fun _ => ?_) (fun z => absurd (by decide) z)
      refine lv_aload_n B.1 B.2.1 dX1_tearOut_75 rfl (lv_at hl 1 rfl) ?_
      refine lv_dup B.1 B.2.1 dX1_tearOut_76 rfl ?_
      refine r_cg B hC (i := 153) (by decide) c0 (C := RX1) (T := TX1) (n := 2) rfl iwX1_tearOut_X1 1 (by decide) (index := 15) flX1_tearOut_15 rfl (v := .long (lN (ca u))) rfl dX1_tearOut_77 ?_
      refine lv_ldc2 (own := RX1) (v := 10) B.1 B.2.1 B.2.2.2.1 (B.2.2.2.2.1 (.constantLong RX1 19 (10)) (by decide +kernel)) dX1_tearOut_80 ?_
      refine r_tL (y := lN 10) (rfl) ?_
      refine lv_lmul B.1 B.2.1 dX1_tearOut_83 ?_
      refine r_tL (y := lN ((ca u) * 10)) (lN_mul _ _) ?_
      refine r_cp B hC (i := 153) (by decide) c0 tyX1 tyX1_ok nmX1 (C := RX1) (T := TX1) rfl iwX1_tearOut_X1 1 (by decide) (index := 15) flX1_tearOut_15 rfl rfl (v := .long (lN ((ca u) * 10))) (rfl) (rfl) (Nat.le_of_ble_eq_true rfl) dX1_tearOut_84 ?_
      intro H locs hC
      obtain ⟨F21, eF21⟩ : ∃ f : Nat → va_E, f = va_up G (153) (.inr (1, [.ref (ad (154)), .long (lN ((ca u) * 10))])) := ⟨_, rfl⟩
      have hC : Cu g lo 196 ad F21 ss ss.heap H locs := by rw [eF21]; exact hC
      have k153_F21 : F21 153 = .inr (1, [.ref (ad (154)), .long (lN ((ca u) * 10))]) := by rw [eF21]; exact va_up_self _ _ _
      have c1_F21 : F21 154 = .inl (g.2.2 2, 91, .inr (.inl (fun j => lN (cw u j)))) := by rw [eF21, va_up_ne _ _ (by decide)]; exact c1
      exact r_eV B hC (⟨(cw u, ca c * 10), ⟨by rw [← hca]; exact k153_F21, c1_F21⟩, fun j hj => by rw [show cw (cw u, ca c * 10) j = cw u j from rfl, hu j hj, if_pos (by omega)], rfl, (by rw [eF21]; exact Same.up (Same.wide hs (by omega) (by omega)) (by omega) (by omega))⟩) dX1_tearOut_87
    | succ k ih8 =>
      intro u G hk91 hG hu hca hs H locs ls hC hl
      obtain ⟨c0, c1⟩ := id hG
      have hl : lv_has ls 7 [(3, .int (nI k)), (0, .ref (ad (153))), (1, .int (nI d)), (2, .int (nI x))] := by rw [nI_p1 k] at hl; exact hl
      refine lv_iload_n B.1 B.2.1 dX1_tearOut_8 rfl (lv_at hl 0 rfl) ?_
      refine lv_if_lt (tgt := 75) B.1 B.2.1 dX1_tearOut_9 (by decide) (fun z => absurd z (nI_pos (by omega))) (fun _ => ?_)
      refine lv_iload_n B.1 B.2.1 dX1_tearOut_12 rfl (lv_at hl 0 rfl) ?_
      refine lv_iload_n B.1 B.2.1 dX1_tearOut_13 rfl (lv_at hl 2 rfl) ?_
      refine lv_isub B.1 B.2.1 dX1_tearOut_14 ?_
      refine r_tI (y := nI k - nI d) (rfl) ?_
      refine lv_istore (lv' := [(4, .int (nI k - nI d)), (3, .int (nI k)), (0, .ref (ad (153))), (1, .int (nI d)), (2, .int (nI x))]) B.1 B.2.1 dX1_tearOut_15 hl (by decide) rfl (fun ls hl => ?_)
      refine lv_iload B.1 B.2.1 dX1_tearOut_17 (lv_at hl 0 rfl) ?_
      refine lv_if_lt (tgt := 45) B.1 B.2.1 dX1_tearOut_19 (by decide) (fun c_19 => ?_) (fun c_19 => ?_)
      · have q_19 := (nI_sub_lt0 (by omega) (by omega)).mp c_19
        refine lv_lconst (v := lN 0) B.1 B.2.1 dX1_tearOut_45 (by decide) ?_
        refine lv_lstore (lv' := [(5, .long (lN 0)), (4, .int (nI k - nI d)), (3, .int (nI k)), (0, .ref (ad (153))), (1, .int (nI d)), (2, .int (nI x))]) B.1 B.2.1 dX1_tearOut_46 hl (by decide) rfl (fun ls hl => ?_)
        refine lv_aload_n B.1 B.2.1 dX1_tearOut_48 rfl (lv_at hl 3 rfl) ?_
        refine r_cg B hC (i := 153) (by decide) c0 (C := RX1) (T := TX1) (n := 2) rfl iwX1_tearOut_X1 0 (by decide) (index := 9) flX1_tearOut_9 rfl (v := .ref (ad (154))) rfl dX1_tearOut_49 ?_
        refine lv_iload_n B.1 B.2.1 dX1_tearOut_52 rfl (lv_at hl 2 rfl) ?_
        refine lv_aload_n B.1 B.2.1 dX1_tearOut_53 rfl (lv_at hl 3 rfl) ?_
        refine r_cg B hC (i := 153) (by decide) c0 (C := RX1) (T := TX1) (n := 2) rfl iwX1_tearOut_X1 0 (by decide) (index := 9) flX1_tearOut_9 rfl (v := .ref (ad (154))) rfl dX1_tearOut_54 ?_
        refine lv_iload_n B.1 B.2.1 dX1_tearOut_57 rfl (lv_at hl 2 rfl) ?_
        refine r_clald B hC (i := 154) (by decide) c1 (j := k) (by omega) (by decide) dX1_tearOut_58 ?_
        refine r_tL (y := lN (cw u k)) rfl ?_
        refine lv_bipush (v := nI 10) B.1 B.2.1 dX1_tearOut_59 (by decide) ?_
        refine lv_iload_n B.1 B.2.1 dX1_tearOut_61 rfl (lv_at hl 5 rfl) ?_
        refine lv_isub B.1 B.2.1 dX1_tearOut_62 ?_
        refine r_tI (y := nI (10 - x)) (pk_sub (by omega)) ?_
        refine lv_i2l (v := lN (10 - x)) B.1 B.2.1 dX1_tearOut_63 (nI_l (by omega)) ?_
        refine lv_lmul B.1 B.2.1 dX1_tearOut_64 ?_
        refine r_tL (y := lN ((cw u k) * (10 - x))) (lN_mul _ _) ?_
        refine lv_lload B.1 B.2.1 dX1_tearOut_65 (lv_at hl 0 rfl) ?_
        refine lv_ladd B.1 B.2.1 dX1_tearOut_67 ?_
        refine r_tL (y := lN (((cw u k) * (10 - x)) + 0)) (lN_add _ _) ?_
        refine r_clast B hC (i := 154) (by decide) c1 (j := k) (by omega) (by decide) dX1_tearOut_68 ?_
        intro H locs hC
        obtain ⟨F21, eF21⟩ : ∃ f : Nat → va_E, f = va_up G (154) (.inl (g.2.2 2, 91, .inr (.inl (fun j => lN (va_up (cw u) k ((((cw u k) * (10 - x)) + 0)) j))))) := ⟨_, rfl⟩
        have hC : Cu g lo 196 ad F21 ss ss.heap H locs := by rw [eF21]; exact (by rw [← upd_lN (cw u) k ((((cw u k) * (10 - x)) + 0))]; exact hC)
        have k154_F21 : F21 154 = .inl (g.2.2 2, 91, .inr (.inl (fun j => lN (va_up (cw u) k ((((cw u k) * (10 - x)) + 0)) j)))) := by rw [eF21]; exact va_up_self _ _ _
        have c0_F21 : F21 153 = .inr (1, [.ref (ad (154)), .long (lN (ca u))]) := by rw [eF21, va_up_ne _ _ (by decide)]; exact c0
        refine lv_iinc (v := nI k - nI 1) (lv' := [(3, .int (nI k - nI 1)), (5, .long (lN 0)), (4, .int (nI k - nI d)), (0, .ref (ad (153))), (1, .int (nI d)), (2, .int (nI x))]) B.1 B.2.1 dX1_tearOut_69 hl (k := 2) rfl (nI_dec k) (by decide) rfl (fun ls hl => ?_)
        refine lv_goto (tgt := 8) B.1 B.2.1 dX1_tearOut_72 (by decide) ?_
        exact ih8 (va_up (cw u) k ((((cw u k) * (10 - x)) + 0)), ca u) F21 (by omega) ⟨c0_F21, k154_F21⟩ (fun j hj => by
  by_cases e : j = k
  · show va_up (cw u) k ((((cw u k) * (10 - x)) + 0)) j = _
    rw [e, va_up_self, if_pos (by omega), tearV, if_neg (by omega)]
    rw [hu k (by omega), if_neg (by omega)]
  · show va_up (cw u) k ((((cw u k) * (10 - x)) + 0)) j = _
    rw [va_up_ne _ _ e, hu j hj]
    by_cases e2 : k ≤ j
    · rw [if_pos (by omega), if_pos (by omega)]
    · rw [if_neg (by omega), if_neg (by omega)]) hca (by rw [eF21]; exact Same.up (Same.wide hs (by omega) (by omega)) (by omega) (by omega)) _ _ ls hC (lv_sub hl [0, 3, 4, 5] rfl)
      · have q_19 : ¬ k < d := fun z => c_19 ((nI_sub_lt0 (by omega) (by omega)).mpr z)
        refine lv_iload B.1 B.2.1 dX1_tearOut_22 (lv_at hl 0 rfl) ?_
        refine r_tI (y := nI (k - d)) (pk_sub (by omega)) ?_
        refine lv_aload_n B.1 B.2.1 dX1_tearOut_24 rfl (lv_at hl 2 rfl) ?_
        refine r_cg B hC (i := 153) (by decide) c0 (C := RX1) (T := TX1) (n := 2) rfl iwX1_tearOut_X1 0 (by decide) (index := 9) flX1_tearOut_9 rfl (v := .ref (ad (154))) rfl dX1_tearOut_25 ?_
        refine r_calen B hC (i := 154) (by decide) c1 2 rfl (n := 91) rfl dX1_tearOut_28 ?_
        refine lv_icmp_ge (tgt := 45) B.1 B.2.1 dX1_tearOut_29 (by decide) (fun z => absurd z (nI_ge (by omega) (by omega))) (fun _ => ?_)
        refine lv_aload_n B.1 B.2.1 dX1_tearOut_32 rfl (lv_at hl 2 rfl) ?_
        refine r_cg B hC (i := 153) (by decide) c0 (C := RX1) (T := TX1) (n := 2) rfl iwX1_tearOut_X1 0 (by decide) (index := 9) flX1_tearOut_9 rfl (v := .ref (ad (154))) rfl dX1_tearOut_33 ?_
        refine lv_iload B.1 B.2.1 dX1_tearOut_36 (lv_at hl 0 rfl) ?_
        refine r_tI (y := nI (k - d)) (pk_sub (by omega)) ?_
        refine r_clald B hC (i := 154) (by decide) c1 (j := (k - d)) (by omega) (by decide) dX1_tearOut_38 ?_
        refine r_tL (y := lN (cw u (k - d))) rfl ?_
        refine lv_iload_n B.1 B.2.1 dX1_tearOut_39 rfl (lv_at hl 4 rfl) ?_
        refine lv_i2l (v := lN x) B.1 B.2.1 dX1_tearOut_40 (nI_l (by omega)) ?_
        refine lv_lmul B.1 B.2.1 dX1_tearOut_41 ?_
        refine r_tL (y := lN ((cw u (k - d)) * x)) (lN_mul _ _) ?_
        refine lv_goto (tgt := 46) B.1 B.2.1 dX1_tearOut_42 (by decide) ?_
        refine lv_lstore (lv' := [(5, .long (lN ((cw u (k - d)) * x))), (4, .int (nI k - nI d)), (3, .int (nI k)), (0, .ref (ad (153))), (1, .int (nI d)), (2, .int (nI x))]) B.1 B.2.1 dX1_tearOut_46 hl (by decide) rfl (fun ls hl => ?_)
        refine lv_aload_n B.1 B.2.1 dX1_tearOut_48 rfl (lv_at hl 3 rfl) ?_
        refine r_cg B hC (i := 153) (by decide) c0 (C := RX1) (T := TX1) (n := 2) rfl iwX1_tearOut_X1 0 (by decide) (index := 9) flX1_tearOut_9 rfl (v := .ref (ad (154))) rfl dX1_tearOut_49 ?_
        refine lv_iload_n B.1 B.2.1 dX1_tearOut_52 rfl (lv_at hl 2 rfl) ?_
        refine lv_aload_n B.1 B.2.1 dX1_tearOut_53 rfl (lv_at hl 3 rfl) ?_
        refine r_cg B hC (i := 153) (by decide) c0 (C := RX1) (T := TX1) (n := 2) rfl iwX1_tearOut_X1 0 (by decide) (index := 9) flX1_tearOut_9 rfl (v := .ref (ad (154))) rfl dX1_tearOut_54 ?_
        refine lv_iload_n B.1 B.2.1 dX1_tearOut_57 rfl (lv_at hl 2 rfl) ?_
        refine r_clald B hC (i := 154) (by decide) c1 (j := k) (by omega) (by decide) dX1_tearOut_58 ?_
        refine r_tL (y := lN (cw u k)) rfl ?_
        refine lv_bipush (v := nI 10) B.1 B.2.1 dX1_tearOut_59 (by decide) ?_
        refine lv_iload_n B.1 B.2.1 dX1_tearOut_61 rfl (lv_at hl 5 rfl) ?_
        refine lv_isub B.1 B.2.1 dX1_tearOut_62 ?_
        refine r_tI (y := nI (10 - x)) (pk_sub (by omega)) ?_
        refine lv_i2l (v := lN (10 - x)) B.1 B.2.1 dX1_tearOut_63 (nI_l (by omega)) ?_
        refine lv_lmul B.1 B.2.1 dX1_tearOut_64 ?_
        refine r_tL (y := lN ((cw u k) * (10 - x))) (lN_mul _ _) ?_
        refine lv_lload B.1 B.2.1 dX1_tearOut_65 (lv_at hl 0 rfl) ?_
        refine lv_ladd B.1 B.2.1 dX1_tearOut_67 ?_
        refine r_tL (y := lN (((cw u k) * (10 - x)) + ((cw u (k - d)) * x))) (lN_add _ _) ?_
        refine r_clast B hC (i := 154) (by decide) c1 (j := k) (by omega) (by decide) dX1_tearOut_68 ?_
        intro H locs hC
        obtain ⟨F21, eF21⟩ : ∃ f : Nat → va_E, f = va_up G (154) (.inl (g.2.2 2, 91, .inr (.inl (fun j => lN (va_up (cw u) k ((((cw u k) * (10 - x)) + ((cw u (k - d)) * x))) j))))) := ⟨_, rfl⟩
        have hC : Cu g lo 196 ad F21 ss ss.heap H locs := by rw [eF21]; exact (by rw [← upd_lN (cw u) k ((((cw u k) * (10 - x)) + ((cw u (k - d)) * x)))]; exact hC)
        have k154_F21 : F21 154 = .inl (g.2.2 2, 91, .inr (.inl (fun j => lN (va_up (cw u) k ((((cw u k) * (10 - x)) + ((cw u (k - d)) * x))) j)))) := by rw [eF21]; exact va_up_self _ _ _
        have c0_F21 : F21 153 = .inr (1, [.ref (ad (154)), .long (lN (ca u))]) := by rw [eF21, va_up_ne _ _ (by decide)]; exact c0
        refine lv_iinc (v := nI k - nI 1) (lv' := [(3, .int (nI k - nI 1)), (5, .long (lN ((cw u (k - d)) * x))), (4, .int (nI k - nI d)), (0, .ref (ad (153))), (1, .int (nI d)), (2, .int (nI x))]) B.1 B.2.1 dX1_tearOut_69 hl (k := 2) rfl (nI_dec k) (by decide) rfl (fun ls hl => ?_)
        refine lv_goto (tgt := 8) B.1 B.2.1 dX1_tearOut_72 (by decide) ?_
        exact ih8 (va_up (cw u) k ((((cw u k) * (10 - x)) + ((cw u (k - d)) * x))), ca u) F21 (by omega) ⟨c0_F21, k154_F21⟩ (fun j hj => by
  by_cases e : j = k
  · show va_up (cw u) k ((((cw u k) * (10 - x)) + ((cw u (k - d)) * x))) j = _
    rw [e, va_up_self, if_pos (by omega), tearV, if_pos (by omega)]
    rw [hu k (by omega), if_neg (by omega), hu (k - d) (by omega), if_neg (by omega)]
  · show va_up (cw u) k ((((cw u k) * (10 - x)) + ((cw u (k - d)) * x))) j = _
    rw [va_up_ne _ _ e, hu j hj]
    by_cases e2 : k ≤ j
    · rw [if_pos (by omega), if_pos (by omega)]
    · rw [if_neg (by omega), if_neg (by omega)]) hca (by rw [eF21]; exact Same.up (Same.wide hs (by omega) (by omega)) (by omega) (by omega)) _ _ ls hC (lv_sub hl [0, 3, 4, 5] rfl)
  exact loop8 91 c F (by decide) hC0 (fun j hj => by rw [if_neg (by omega)]) rfl Same.rf _ _ ls hC (lv_sub hl [0, 1, 2, 3] rfl)
theorem iwX1_upTo_X1 : ∀ w ∈ u_ws RX1 TX1 2, w ∈ wsX1_upTo := by decide +kernel
theorem flX1_upTo_9 : Cond.fieldLink RX1 9 RX1 (TX1 0).2.1 (TX1 0).2.2.1 ∈ wsX1_upTo := by decide +kernel
set_option maxHeartbeats 4000000 in
set_option maxRecDepth 100000 in
theorem ctX1_upTo (l : Launch) (g : Gx) (lo : Nat) (ad : Nat → Nat) {F : Nat → va_E} {c : CV} (hC0 : ChC g ad F c) {y : Nat} (hy : y ≤ 99) : ML l g lo 196 ad yX1_upTo wsX1_upTo 0 0 [.ref (ad (153)), .int (nI y)] F (fun r F' => r = lN (sumTo (cw c) (min (y + 1) 91)) ∧ F' = F) := by
  obtain ⟨c0, c1⟩ := id hC0
  refine enter (cc := cX1_upTo) (maxL := 5) (ret := some .long) (own := RX1) (by decide +kernel) rfl rfl (Nat.le_of_ble_eq_true rfl) ?_
  intro pp ee ss mm below meth cc B hini hC ls hl
  have hl : lv_has ls 5 [(0, .ref (ad (153))), (1, .int (nI y))] := hl
  refine lv_lconst (v := lN 0) B.1 B.2.1 dX1_upTo_0 (by decide) ?_
  refine lv_lstore_n (lv' := [(2, .long (lN 0)), (0, .ref (ad (153))), (1, .int (nI y))]) B.1 B.2.1 dX1_upTo_1 rfl hl (by decide) rfl (fun ls hl => ?_)
  refine lv_iconst (v := nI 0) B.1 B.2.1 dX1_upTo_2 (by decide) ?_
  refine lv_istore (lv' := [(4, .int (nI 0)), (2, .long (lN 0)), (0, .ref (ad (153))), (1, .int (nI y))]) B.1 B.2.1 dX1_upTo_3 hl (by decide) rfl (fun ls hl => ?_)
  have loop5 : ∀ (k : Nat) (i a : Nat), (i + k = 91) → (i ≤ y + 1) → (a = sumTo (cw c) i) → ∀ (H : Heap) (locs : List Loc) (ls : Array Slot), Cu g lo 196 ad F ss ss.heap H locs → lv_has ls 5 [(4, .int (nI i)), (2, .long (lN a)), (0, .ref (ad (153))), (1, .int (nI y))] → W pp l ee { frames := 0, cells := 0, slots := 0, locals := 0 } ss mm ([.ref (ad (153)), .int (nI y)] : List Value).toArray below meth cc H locs 0 0 (MQ below (va_Ql (fun r F' => r = lN (sumTo (cw c) (min (y + 1) 91)) ∧ F' = F) (fun F' t => Wd g lo 196 ad F' t) (fun q => lo ≤ q)) ([.ref (ad (153)), .int (nI y)] : List Value).toArray ss 0 0 (fun q => lo ≤ q)) (F0 mm 5 ls []) := by
    intro k
    induction k with
    | zero =>
      intro i a hik hiy ha H locs ls hC hl
      refine lv_iload B.1 B.2.1 dX1_upTo_5 (lv_at hl 0 rfl) ?_
      refine lv_iload_n B.1 B.2.1 dX1_upTo_7 rfl (lv_at hl 3 rfl) ?_
      refine lv_icmp_gt (tgt := 37) B.1 B.2.1 dX1_upTo_8 (by decide) (fun c_8 => ?_) (fun c_8 => ?_)
      · have q_8 : y < i := (nI_ltI (by omega) (by omega)).mp c_8
        refine lv_lload_n B.1 B.2.1 dX1_upTo_37 rfl (lv_at hl 1 rfl) ?_
        exact r_eL B hC (v := lN a) (⟨by rw [ha, show min (y + 1) 91 = i by omega], rfl⟩) dX1_upTo_38
      · have q_8 : ¬ y < i := fun z => c_8 ((nI_ltI (by omega) (by omega)).mpr z)
        refine lv_iload B.1 B.2.1 dX1_upTo_11 (lv_at hl 0 rfl) ?_
        refine lv_aload_n B.1 B.2.1 dX1_upTo_13 rfl (lv_at hl 2 rfl) ?_
        refine r_cg B hC (i := 153) (by decide) c0 (C := RX1) (T := TX1) (n := 2) rfl iwX1_upTo_X1 0 (by decide) (index := 9) flX1_upTo_9 rfl (v := .ref (ad (154))) rfl dX1_upTo_14 ?_
        refine r_calen B hC (i := 154) (by decide) c1 2 rfl (n := 91) rfl dX1_upTo_17 ?_
        refine lv_icmp_ge (tgt := 37) B.1 B.2.1 dX1_upTo_18 (by decide) (fun _ => ?_) (fun z => absurd (nI_le (by omega) (by omega)) z)
        refine lv_lload_n B.1 B.2.1 dX1_upTo_37 rfl (lv_at hl 1 rfl) ?_
        exact r_eL B hC (v := lN a) (⟨by rw [ha, show min (y + 1) 91 = i by omega], rfl⟩) dX1_upTo_38
    | succ k ih5 =>
      intro i a hik hiy ha H locs ls hC hl
      refine lv_iload B.1 B.2.1 dX1_upTo_5 (lv_at hl 0 rfl) ?_
      refine lv_iload_n B.1 B.2.1 dX1_upTo_7 rfl (lv_at hl 3 rfl) ?_
      refine lv_icmp_gt (tgt := 37) B.1 B.2.1 dX1_upTo_8 (by decide) (fun c_8 => ?_) (fun c_8 => ?_)
      · have q_8 : y < i := (nI_ltI (by omega) (by omega)).mp c_8
        refine lv_lload_n B.1 B.2.1 dX1_upTo_37 rfl (lv_at hl 1 rfl) ?_
        exact r_eL B hC (v := lN a) (⟨by rw [ha, show min (y + 1) 91 = i by omega], rfl⟩) dX1_upTo_38
      · have q_8 : ¬ y < i := fun z => c_8 ((nI_ltI (by omega) (by omega)).mpr z)
        refine lv_iload B.1 B.2.1 dX1_upTo_11 (lv_at hl 0 rfl) ?_
        refine lv_aload_n B.1 B.2.1 dX1_upTo_13 rfl (lv_at hl 2 rfl) ?_
        refine r_cg B hC (i := 153) (by decide) c0 (C := RX1) (T := TX1) (n := 2) rfl iwX1_upTo_X1 0 (by decide) (index := 9) flX1_upTo_9 rfl (v := .ref (ad (154))) rfl dX1_upTo_14 ?_
        refine r_calen B hC (i := 154) (by decide) c1 2 rfl (n := 91) rfl dX1_upTo_17 ?_
        refine lv_icmp_ge (tgt := 37) B.1 B.2.1 dX1_upTo_18 (by decide) (fun z => absurd z (nI_ge (by omega) (by omega))) (fun _ => ?_)
        refine lv_lload_n B.1 B.2.1 dX1_upTo_21 rfl (lv_at hl 1 rfl) ?_
        refine lv_aload_n B.1 B.2.1 dX1_upTo_22 rfl (lv_at hl 2 rfl) ?_
        refine r_cg B hC (i := 153) (by decide) c0 (C := RX1) (T := TX1) (n := 2) rfl iwX1_upTo_X1 0 (by decide) (index := 9) flX1_upTo_9 rfl (v := .ref (ad (154))) rfl dX1_upTo_23 ?_
        refine lv_iload B.1 B.2.1 dX1_upTo_26 (lv_at hl 0 rfl) ?_
        refine r_clald B hC (i := 154) (by decide) c1 (j := i) (by omega) (by decide) dX1_upTo_28 ?_
        refine r_tL (y := lN (cw c i)) rfl ?_
        refine lv_ladd B.1 B.2.1 dX1_upTo_29 ?_
        refine r_tL (y := lN (a + (cw c i))) (lN_add _ _) ?_
        refine lv_lstore_n (lv' := [(2, .long (lN (a + (cw c i)))), (4, .int (nI i)), (0, .ref (ad (153))), (1, .int (nI y))]) B.1 B.2.1 dX1_upTo_30 rfl hl (by decide) rfl (fun ls hl => ?_)
        refine lv_iinc (v := nI (i + 1)) (lv' := [(4, .int (nI (i + 1))), (2, .long (lN (a + (cw c i)))), (0, .ref (ad (153))), (1, .int (nI y))]) B.1 B.2.1 dX1_upTo_31 hl (k := 1) rfl (nI_1 _) (by decide) rfl (fun ls hl => ?_)
        refine lv_goto (tgt := 5) B.1 B.2.1 dX1_upTo_34 (by decide) ?_
        exact ih5 (i + 1) (a + cw c i) (by omega) (by omega) (by rw [sumTo, ha]) _ _ ls hC (lv_sub hl [0, 1, 2, 3] rfl)
  exact loop5 91 0 0 (by decide) (by omega) rfl _ _ ls hC (lv_sub hl [0, 1, 2, 3] rfl)
end
section
/-! MOVES, one after another: which may be, what they leave -/
theorem LOK_cut {h : HV} {w : LV} (k : LOK h w) {t x : Nat} (ht : t < 10) (hx : x ≤ 9) : LOK h (cutV w t x) := by
  obtain ⟨k1, k2, k3, k4, k5, k6, k7, k8⟩ := k
  refine ⟨fun s => ⟨(k1 s).1, ?_, (k1 s).2.2⟩, k2, k3, k4, k5, k6, k7, fun j hj => ⟨(k8 j hj).1, ?_, (k8 j hj).2.2.1, (k8 j hj).2.2.2⟩⟩
  · show va_up (ln w) t x s ≤ 9
    by_cases e : s = t
    · rw [e, va_up_self]; exact hx
    · rw [va_up_ne _ _ e]; exact (k1 s).2.1
  · show va_up (ln w) t x j = 0
    rw [va_up_ne _ _ (by omega)]; exact (k8 j hj).2.1
theorem fitsV_p {h : HV} {w : LV} {t p : Nat} (q : fitsV h w t p = true) : p < hn h ∧ ti w p = none ∧ hle h p ≤ ln w t := by
  simp only [fitsV, Bool.and_eq_true, decide_eq_true_eq, Option.isNone_iff_eq_none] at q
  exact ⟨q.1, q.2.1, q.2.2.1⟩
theorem mayV_f {h : HV} {w : LV} {t p : Nat} (q : mayV h w t p = true) : fitsV h w t p = true ∧ (wh w t = 100 ∨ wh w t < hn h) := by
  unfold mayV at q
  split at q
  · next e => exact ⟨q, Or.inl e⟩
  · simp only [Bool.and_eq_true, decide_eq_true_eq] at q
    exact ⟨q.2.2.2, Or.inr q.1⟩
theorem mayV_t {h : HV} {w : LV} (ok : HOK h) (k : LOK h w) {t p : Nat} (ht : t < 10) (q : mayV h w t p = true) : t < hn h := by
  have e := (mayV_f q).2
  have := ok.1
  rcases Nat.lt_or_ge t (hn h) with z | z
  · exact z
  · have := k.2.2.2.2.2.1 t z ht
    omega
theorem LOK_put {h : HV} {w : LV} (ok : HOK h) (k : LOK h w) {t p : Nat} (ht : t < 10) (hw : wh w t ≠ 200) (q : fitsV h w t p = true) : LOK h (cutV' h w t p) := by
  obtain ⟨e1, e2, e3⟩ := fitsV_p q
  have htn : t < hn h := by
    rcases Nat.lt_or_ge t (hn h) with z | z
    · exact z
    · exact absurd (k.2.2.2.2.2.1 t z ht) hw
  exact LOK_cut (LOK_bring ok k htn (Or.inr ⟨k.2.2.2.2.2.2.1 t ht hw, Or.inr ⟨e1, e2⟩⟩)) ht (ok.2.2.2.1 p).1
theorem LOK_move {h : HV} {w : LV} (ok : HOK h) (k : LOK h w) {t p : Nat} (ht : t < 10) (q : mayV h w t p = true) : LOK h (cutV' h w t p) :=
  LOK_put ok k ht (by have := (mayV_f q).2; have := ok.1; omega) (mayV_f q).1
/-- told as 10 times the timber and the place -/
def mayM (h : HV) (w : LV) (m : Nat) : Bool := mayV h w (m / 10) (m % 10)
def stepV (h : HV) (w : LV) (m : Nat) : LV := cutV' h w (m / 10) (m % 10)
theorem LOK_step {h : HV} {w : LV} (ok : HOK h) (k : LOK h w) {m : Nat} (hm : m < 100) (q : mayM h w m = true) : LOK h (stepV h w m) := LOK_move ok k (by omega) q
/-- all MOVES that may be, from m on: k of them are looked at -/
def movesK (h : HV) (w : LV) : Nat → Nat → List Nat
  | 0, _ => []
  | k + 1, m => if mayM h w m = true then m :: movesK h w k (m + 1) else movesK h w k (m + 1)
def L1 (h : HV) (w : LV) (m : Nat) : List Nat := movesK h w (100 - m) m
theorem L1_end {h : HV} {w : LV} {m : Nat} (hm : 100 ≤ m) : L1 h w m = [] := by
  rw [L1, show 100 - m = 0 by omega]; rfl
theorem L1_yes {h : HV} {w : LV} {m : Nat} (hm : m < 100) (q : mayM h w m = true) : L1 h w m = m :: L1 h w (m + 1) := by
  unfold L1
  rw [show 100 - m = (100 - (m + 1)) + 1 by omega, movesK, if_pos q]
theorem L1_no {h : HV} {w : LV} {m : Nat} (hm : m < 100) (q : mayM h w m = false) : L1 h w m = L1 h w (m + 1) := by
  unfold L1
  rw [show 100 - m = (100 - (m + 1)) + 1 by omega, movesK, if_neg (by rw [q]; decide)]
def L2 (h : HV) (w : LV) (m : Nat) : List (List Nat) := (L1 h w m).flatMap (fun x => (L1 h (stepV h w x) 0).map (fun y => [x, y]))
/-- all rows of so many MOVES, the first ones first -/
def rowsV (h : HV) (w : LV) : Nat → List (List Nat)
  | 0 => [[]]
  | 1 => (L1 h w 0).map (fun x => [x])
  | _ => L2 h w 0
def endV (h : HV) : LV → List Nat → LV
  | w, [] => w
  | w, x :: l => endV h (stepV h w x) l
end
section
/-! ROWS: the rows of MOVES, one after another -/
abbrev RV : Type := Nat × Bool × (Nat → Option Nat) × (Nat → LV)
def rmv (v : RV) : Nat := v.1
def rbg (v : RV) : Bool := v.2.1
def rro (v : RV) : Nat → Option Nat := v.2.2.1
def rst (v : RV) : Nat → LV := v.2.2.2
def RowsC (g : Gx) (ad : Nat → Nat) (F : Nat → va_E) (v : RV) : Prop := F 157 = .inr (4, [.ref (ad 3), .ref (ad 158), .ref (ad 159), .int (nI (rmv v)), .int (bI (rbg v))]) ∧ F 158 = .inl (g.2.2 4, 3, .inr (.inr (.inr (.inr (fun k => some (ad (160 + 5 * k))))))) ∧ F 159 = .inl (g.2.2 0, 2, .inl (fun j => y1 (rro v j))) ∧ ∀ k, k < 3 → LoadC g ad F (160 + 5 * k) (rst v k)
def ROK (v : RV) : Prop := ∀ k, k < 3 → CAN (rst v k)
theorem RowsC.keep {g : Gx} {ad : Nat → Nat} {F F' : Nat → va_E} {v : RV} (h : RowsC g ad F v) (hs : ∀ i, 157 ≤ i → i < 175 → F' i = F i) : RowsC g ad F' v :=
  ⟨by rw [hs _ (by omega) (by omega)]; exact h.1, by rw [hs _ (by omega) (by omega)]; exact h.2.1, by rw [hs _ (by omega) (by omega)]; exact h.2.2.1, fun k hk => (h.2.2.2 k hk).at (fun i h1 h2 => hs i (by omega) (by omega))⟩
theorem steps_upd {g : Gx} {ad : Nat → Nat} {F F' : Nat → va_E} {al : Nat → LV} {j : Nat} {w : LV} (h : ∀ k, k < 3 → LoadC g ad F (160 + 5 * k) (al k)) (hj : LoadC g ad F' (160 + 5 * j) w) (hs : ∀ i, 160 ≤ i → i < 175 → (i < 160 + 5 * j ∨ 165 + 5 * j ≤ i) → F' i = F i) : ∀ k, k < 3 → LoadC g ad F' (160 + 5 * k) (va_up al j w k) := by
  intro k hk
  by_cases e : k = j
  · subst e; rw [va_up_self]; exact hj
  · rw [va_up_ne _ _ e]
    exact (h k hk).at (fun i h1 h2 => hs i (by omega) (by omega) (by omega))
theorem upd_y1 (f : Nat → Option Nat) (k : Nat) (o : Option Nat) : upd (fun j => y1 (f j)) k (y1 o) = fun j => y1 (va_up f k o j) := by
  funext j
  by_cases h : j = k
  · subst h; simp [upd, va_up]
  · simp [upd, va_up, h]
def nx (o : Option Nat) : Nat := match o with
  | none => 0
  | some k => k + 1
theorem y1_nx (o : Option Nat) : y1 o + nI 1 = nI (nx o) := by
  cases o with
  | none => decide
  | some k => exact nI_add k 1
theorem iwX4_makeNextMove_X4 : ∀ w ∈ u_ws RX4 TX4 5, w ∈ wsX4_makeNextMove := by decide +kernel
theorem flX4_makeNextMove_11 : Cond.fieldLink RX4 11 RX4 (TX4 1).2.1 (TX4 1).2.2.1 ∈ wsX4_makeNextMove := by decide +kernel
theorem flX4_makeNextMove_17 : Cond.fieldLink RX4 17 RX4 (TX4 2).2.1 (TX4 2).2.2.1 ∈ wsX4_makeNextMove := by decide +kernel
theorem flX4_makeNextMove_29 : Cond.fieldLink RX4 29 RX4 (TX4 0).2.1 (TX4 0).2.2.1 ∈ wsX4_makeNextMove := by decide +kernel
set_option maxHeartbeats 4000000 in
set_option maxRecDepth 100000 in
theorem ctX4_makeNextMove (l : Launch) (g : Gx) (lo : Nat) (ad : Nat → Nat) {F : Nat → va_E} {h : HV} (hH : HullC g ad F h) (ok : HOK h) {v : RV} (hR : RowsC g ad F v) (okR : ROK v) {a : Nat} (ha : a < 2) (hw : LOK h (rst v a)) (hro : nx (rro v a) ≤ 100) : MI l g lo 196 ad yX4_makeNextMove wsX4_makeNextMove 3 69 [.ref (ad (157)), .int (nI a)] F (fun r F' => (r = bI false ∧ L1 h (rst v a) (nx (rro v a)) = [] ∧ F' = F) ∨ ∃ m, r = bI true ∧ nx (rro v a) ≤ m ∧ m < 100 ∧ L1 h (rst v a) (nx (rro v a)) = m :: L1 h (rst v a) (m + 1) ∧ mayM h (rst v a) m = true ∧ RowsC g ad F' (rmv v, rbg v, va_up (rro v) a (some m), va_up (rst v) (a + 1) (stepV h (rst v a) m)) ∧ Same 157 175 F F') := by
  obtain ⟨g0, g1, g2, g3, g4⟩ := id hH
  have okn := ok.1
  have okp := ok.2.1
  have okh := ok.2.2.1
  obtain ⟨r0, r1, r2, rL⟩ := id hR
  refine enter (cc := cX4_makeNextMove) (maxL := 5) (ret := some .boolean) (own := RX4) (by decide +kernel) rfl rfl (Nat.le_of_ble_eq_true rfl) ?_
  intro pp ee ss mm below meth cc B hini hC ls hl
  have hl : lv_has ls 5 [(0, .ref (ad (157))), (1, .int (nI a))] := hl
  refine lv_iload_n B.1 B.2.1 dX4_makeNextMove_0 rfl (lv_at hl 1 rfl) ?_
  refine lv_if_lt (tgt := 24) B.1 B.2.1 dX4_makeNextMove_1 (by decide) (fun z => absurd z (nI_pos (by omega))) (fun _ => ?_)
  refine lv_iload_n B.1 B.2.1 dX4_makeNextMove_4 rfl (lv_at hl 1 rfl) ?_
  refine lv_aload_n B.1 B.2.1 dX4_makeNextMove_5 rfl (lv_at hl 0 rfl) ?_
  refine r_cg B hC (i := 157) (by decide) r0 (C := RX4) (T := TX4) (n := 5) rfl iwX4_makeNextMove_X4 2 (by decide) (index := 17) flX4_makeNextMove_17 rfl (v := .ref (ad (159))) rfl dX4_makeNextMove_6 ?_
  refine r_calen B hC (i := 159) (by decide) r2 0 rfl (n := 2) rfl dX4_makeNextMove_9 ?_
  refine lv_icmp_ge (tgt := 24) B.1 B.2.1 dX4_makeNextMove_10 (by decide) (fun z => absurd z (nI_ge (by omega) (by omega))) (fun _ => ?_)
  refine lv_iload_n B.1 B.2.1 dX4_makeNextMove_13 rfl (lv_at hl 1 rfl) ?_
  refine lv_iconst (v := nI 1) B.1 B.2.1 dX4_makeNextMove_14 (by decide) ?_
  refine lv_iadd B.1 B.2.1 dX4_makeNextMove_15 ?_
  refine r_tI (y := nI (a + 1)) (nI_add _ _) ?_
  refine lv_aload_n B.1 B.2.1 dX4_makeNextMove_16 rfl (lv_at hl 0 rfl) ?_
  refine r_cg B hC (i := 157) (by decide) r0 (C := RX4) (T := TX4) (n := 5) rfl iwX4_makeNextMove_X4 1 (by decide) (index := 11) flX4_makeNextMove_11 rfl (v := .ref (ad (158))) rfl dX4_makeNextMove_17 ?_
  refine r_calen B hC (i := 158) (by decide) r1 4 rfl (n := 3) rfl dX4_makeNextMove_20 ?_
  refine lv_icmp_lt (tgt := 26) B.1 B.2.1 dX4_makeNextMove_21 (by decide) (fun _ => ?_) (fun z => absurd (nI_lt (by omega) (by omega)) z)
  refine lv_aload_n B.1 B.2.1 dX4_makeNextMove_26 rfl (lv_at hl 0 rfl) ?_
  refine r_cg B hC (i := 157) (by decide) r0 (C := RX4) (T := TX4) (n := 5) rfl iwX4_makeNextMove_X4 2 (by decide) (index := 17) flX4_makeNextMove_17 rfl (v := .ref (ad (159))) rfl dX4_makeNextMove_27 ?_
  refine lv_iload_n B.1 B.2.1 dX4_makeNextMove_30 rfl (lv_at hl 1 rfl) ?_
  refine r_cald B hC (i := 159) (by decide) r2 (j := a) (by omega) (by decide) dX4_makeNextMove_31 ?_
  refine r_tI (y := y1 (rro v a)) rfl ?_
  refine lv_iconst (v := nI 1) B.1 B.2.1 dX4_makeNextMove_32 (by decide) ?_
  refine lv_iadd B.1 B.2.1 dX4_makeNextMove_33 ?_
  refine r_tI (y := nI (nx (rro v a))) (y1_nx _) ?_
  refine lv_istore_n (lv' := [(2, .int (nI (nx (rro v a)))), (0, .ref (ad (157))), (1, .int (nI a))]) B.1 B.2.1 dX4_makeNextMove_34 rfl hl (by decide) rfl (fun ls hl => ?_)
  have loop35 : ∀ (k : Nat) (m : Nat), (m + k = 100) → (nx (rro v a) ≤ m) → (L1 h (rst v a) (nx (rro v a)) = L1 h (rst v a) m) → ∀ (H : Heap) (locs : List Loc) (ls : Array Slot), Cu g lo 196 ad F ss ss.heap H locs → lv_has ls 5 [(2, .int (nI m)), (0, .ref (ad (157))), (1, .int (nI a))] → W pp l ee { frames := 3, cells := 0, slots := 0, locals := 69 } ss mm ([.ref (ad (157)), .int (nI a)] : List Value).toArray below meth cc H locs 0 0 (MQ below (va_Qi (fun r F' => (r = bI false ∧ L1 h (rst v a) (nx (rro v a)) = [] ∧ F' = F) ∨ ∃ m, r = bI true ∧ nx (rro v a) ≤ m ∧ m < 100 ∧ L1 h (rst v a) (nx (rro v a)) = m :: L1 h (rst v a) (m + 1) ∧ mayM h (rst v a) m = true ∧ RowsC g ad F' (rmv v, rbg v, va_up (rro v) a (some m), va_up (rst v) (a + 1) (stepV h (rst v a) m)) ∧ Same 157 175 F F') (fun F' t => Wd g lo 196 ad F' t) (fun q => lo ≤ q)) ([.ref (ad (157)), .int (nI a)] : List Value).toArray ss 0 0 (fun q => lo ≤ q)) (F0 mm 35 ls []) := by
    intro k
    induction k with
    | zero =>
      intro m hmk hnx hL1 H locs ls hC hl
      refine lv_iload_n B.1 B.2.1 dX4_makeNextMove_35 rfl (lv_at hl 0 rfl) ?_
      refine lv_bipush (v := nI 100) B.1 B.2.1 dX4_makeNextMove_36 (by decide) ?_
      refine lv_icmp_ge (tgt := 121) B.1 B.2.1 dX4_makeNextMove_38 (by decide) (fun _ => ?_) (fun z => absurd (nI_le (by omega) (by omega)) z)
      refine lv_iconst (v := nI 0) B.1 B.2.1 dX4_makeNextMove_121 (by decide) ?_
      exact r_eZ B hC (v := nI 0) (rfl) (Or.inl ⟨rfl, by rw [hL1, L1_end (by omega)], rfl⟩) dX4_makeNextMove_122
    | succ k ih35 =>
      intro m hmk hnx hL1 H locs ls hC hl
      refine lv_iload_n B.1 B.2.1 dX4_makeNextMove_35 rfl (lv_at hl 0 rfl) ?_
      refine lv_bipush (v := nI 100) B.1 B.2.1 dX4_makeNextMove_36 (by decide) ?_
      refine lv_icmp_ge (tgt := 121) B.1 B.2.1 dX4_makeNextMove_38 (by decide) (fun z => absurd z (nI_ge (by omega) (by omega))) (fun _ => ?_)
      refine lv_iload_n B.1 B.2.1 dX4_makeNextMove_41 rfl (lv_at hl 0 rfl) ?_
      refine lv_bipush (v := nI 10) B.1 B.2.1 dX4_makeNextMove_42 (by decide) ?_
      refine lv_idiv B.1 B.2.1 dX4_makeNextMove_44 (by decide) ?_
      refine r_tI (y := nI (m / 10)) (pk_div (by omega) (by omega) (by omega)) ?_
      refine lv_istore_n (lv' := [(3, .int (nI (m / 10))), (2, .int (nI m)), (0, .ref (ad (157))), (1, .int (nI a))]) B.1 B.2.1 dX4_makeNextMove_45 rfl hl (by decide) rfl (fun ls hl => ?_)
      refine lv_iload_n B.1 B.2.1 dX4_makeNextMove_46 rfl (lv_at hl 1 rfl) ?_
      refine lv_bipush (v := nI 10) B.1 B.2.1 dX4_makeNextMove_47 (by decide) ?_
      refine lv_irem B.1 B.2.1 dX4_makeNextMove_49 (by decide) ?_
      refine r_tI (y := nI (m % 10)) (pk_rem (by omega) (by omega) (by omega)) ?_
      refine lv_istore (lv' := [(4, .int (nI (m % 10))), (3, .int (nI (m / 10))), (2, .int (nI m)), (0, .ref (ad (157))), (1, .int (nI a))]) B.1 B.2.1 dX4_makeNextMove_50 hl (by decide) rfl (fun ls hl => ?_)
      refine lv_aload_n B.1 B.2.1 dX4_makeNextMove_52 rfl (lv_at hl 3 rfl) ?_
      refine r_cg B hC (i := 157) (by decide) r0 (C := RX4) (T := TX4) (n := 5) rfl iwX4_makeNextMove_X4 0 (by decide) (index := 29) flX4_makeNextMove_29 rfl (v := .ref (ad (3))) rfl dX4_makeNextMove_53 ?_
      refine lv_iload_n B.1 B.2.1 dX4_makeNextMove_56 rfl (lv_at hl 1 rfl) ?_
      refine lv_iload B.1 B.2.1 dX4_makeNextMove_57 (lv_at hl 0 rfl) ?_
      refine lv_aload_n B.1 B.2.1 dX4_makeNextMove_59 rfl (lv_at hl 3 rfl) ?_
      refine r_cg B hC (i := 157) (by decide) r0 (C := RX4) (T := TX4) (n := 5) rfl iwX4_makeNextMove_X4 1 (by decide) (index := 11) flX4_makeNextMove_11 rfl (v := .ref (ad (158))) rfl dX4_makeNextMove_60 ?_
      refine lv_iload_n B.1 B.2.1 dX4_makeNextMove_63 rfl (lv_at hl 4 rfl) ?_
      refine r_cqald B hC (i := 158) (by decide) r1 (j := a) (by omega) (by decide) (t := ad (160 + 5 * a)) (rfl) dX4_makeNextMove_64 ?_
      obtain ⟨n0, n1, n2, n3, n4⟩ := id (rL a (by omega))
      refine r_calli B hC hl.1 (3) 2 rfl rfl (by decide) g0 (As := [.int (nI (m / 10)), .int (nI (m % 10)), .ref (ad (160 + 5 * a))]) (ctX2_mayBeMoved l g lo ad hH ok (b := 160 + 5 * a) (by omega) (rL a (by omega)) hw (t := m / 10) (p := m % 10) (by omega) (by omega)) gX4_makeNextMove_X2_mayBeMoved rfl (n := 3) rfl (by decide +kernel) ⟨Nat.le_of_ble_eq_true rfl, Nat.le_of_ble_eq_true rfl⟩ ⟨Nat.zero_le _, Nat.zero_le _⟩ rfl (Nat.le_of_ble_eq_true rfl) dX4_makeNextMove_65 (fun r65 F1 H locs hp65 hC => ?_)
      obtain ⟨er, eF⟩ := hp65
      subst er
      rw [eF] at hC
      refine lv_if_eq (tgt := 115) B.1 B.2.1 dX4_makeNextMove_68 (by decide) (fun c_68 => ?_) (fun c_68 => ?_)
      · have q_68 : (mayV h (rst v a) (m / 10) (m % 10)) = false := bI_f.mp c_68
        refine lv_iinc (v := nI (m + 1)) (lv' := [(2, .int (nI (m + 1))), (4, .int (nI (m % 10))), (3, .int (nI (m / 10))), (0, .ref (ad (157))), (1, .int (nI a))]) B.1 B.2.1 dX4_makeNextMove_115 hl (k := 2) rfl (nI_1 _) (by decide) rfl (fun ls hl => ?_)
        refine lv_goto (tgt := 35) B.1 B.2.1 dX4_makeNextMove_118 (by decide) ?_
        exact ih35 (m + 1) (by omega) (by omega) (by rw [hL1, L1_no (by omega) q_68]) _ _ ls hC (lv_sub hl [0, 3, 4] rfl)
      · have q_68 : (mayV h (rst v a) (m / 10) (m % 10)) = true := bI_t.mp c_68
        refine lv_aload_n B.1 B.2.1 dX4_makeNextMove_71 rfl (lv_at hl 3 rfl) ?_
        refine r_cg B hC (i := 157) (by decide) r0 (C := RX4) (T := TX4) (n := 5) rfl iwX4_makeNextMove_X4 2 (by decide) (index := 17) flX4_makeNextMove_17 rfl (v := .ref (ad (159))) rfl dX4_makeNextMove_72 ?_
        refine lv_iload_n B.1 B.2.1 dX4_makeNextMove_75 rfl (lv_at hl 4 rfl) ?_
        refine lv_iload_n B.1 B.2.1 dX4_makeNextMove_76 rfl (lv_at hl 2 rfl) ?_
        refine r_cast B hC (i := 159) (by decide) r2 (j := a) (by omega) (by decide) dX4_makeNextMove_77 ?_
        intro H locs hC
        obtain ⟨F1, eF1⟩ : ∃ f : Nat → va_E, f = va_up F (159) (.inl (g.2.2 0, 2, .inl (fun j => y1 (va_up (rro v) a (some m) j)))) := ⟨_, rfl⟩
        have hC : Cu g lo 196 ad F1 ss ss.heap H locs := by rw [eF1]; exact (by rw [← upd_y1 (rro v) a (some m)]; exact hC)
        have k159_F1 : F1 159 = .inl (g.2.2 0, 2, .inl (fun j => y1 (va_up (rro v) a (some m) j))) := by rw [eF1]; exact va_up_self _ _ _
        have g0_F1 : F1 3 = .inr (2, [.ref (ad (4)), .ref (ad (5)), .ref (ad (6)), .ref (ad (7)), .int (nI (hn h)), .int (nI (hpu h)), .int (nI (hho h))]) := by rw [eF1, va_up_ne _ _ (by decide)]; exact g0
        have g1_F1 : F1 4 = .inl (g.2.2 0, 10, .inl (fun j => nI (hle h j))) := by rw [eF1, va_up_ne _ _ (by decide)]; exact g1
        have g2_F1 : F1 5 = .inl (g.2.2 0, 10, .inl (fun j => nI (hin_ h j))) := by rw [eF1, va_up_ne _ _ (by decide)]; exact g2
        have g3_F1 : F1 6 = .inl (g.2.2 0, 10, .inl (fun j => oI (hre h j))) := by rw [eF1, va_up_ne _ _ (by decide)]; exact g3
        have g4_F1 : F1 7 = .inl (g.2.2 0, 10, .inl (fun j => oI (hsh h j))) := by rw [eF1, va_up_ne _ _ (by decide)]; exact g4
        have r0_F1 : F1 157 = .inr (4, [.ref (ad (3)), .ref (ad (158)), .ref (ad (159)), .int (nI (rmv v)), .int (bI (rbg v))]) := by rw [eF1, va_up_ne _ _ (by decide)]; exact r0
        have r1_F1 : F1 158 = .inl (g.2.2 4, 3, .inr (.inr (.inr (.inr (fun k => some (ad (160 + 5 * k))))))) := by rw [eF1, va_up_ne _ _ (by decide)]; exact r1
        refine lv_aload_n B.1 B.2.1 dX4_makeNextMove_78 rfl (lv_at hl 3 rfl) ?_
        refine r_cg B hC (i := 157) (by decide) r0_F1 (C := RX4) (T := TX4) (n := 5) rfl iwX4_makeNextMove_X4 1 (by decide) (index := 11) flX4_makeNextMove_11 rfl (v := .ref (ad (158))) rfl dX4_makeNextMove_79 ?_
        refine lv_iload_n B.1 B.2.1 dX4_makeNextMove_82 rfl (lv_at hl 4 rfl) ?_
        refine lv_iconst (v := nI 1) B.1 B.2.1 dX4_makeNextMove_83 (by decide) ?_
        refine lv_iadd B.1 B.2.1 dX4_makeNextMove_84 ?_
        refine r_tI (y := nI (a + 1)) (nI_add _ _) ?_
        refine r_cqald B hC (i := 158) (by decide) r1_F1 (j := (a + 1)) (by omega) (by decide) (t := ad (160 + 5 * (a + 1))) (rfl) dX4_makeNextMove_85 ?_
        refine lv_aload_n B.1 B.2.1 dX4_makeNextMove_86 rfl (lv_at hl 3 rfl) ?_
        refine r_cg B hC (i := 157) (by decide) r0_F1 (C := RX4) (T := TX4) (n := 5) rfl iwX4_makeNextMove_X4 1 (by decide) (index := 11) flX4_makeNextMove_11 rfl (v := .ref (ad (158))) rfl dX4_makeNextMove_87 ?_
        refine lv_iload_n B.1 B.2.1 dX4_makeNextMove_90 rfl (lv_at hl 4 rfl) ?_
        refine r_cqald B hC (i := 158) (by decide) r1_F1 (j := a) (by omega) (by decide) (t := ad (160 + 5 * a)) (rfl) dX4_makeNextMove_91 ?_
        have rLa : LoadC g ad F1 (160 + 5 * a) (rst v a) := (rL a (by omega)).at (fun i h1 h2 => by rw [eF1, va_up_ne _ _ (by omega)])
        have rLb : LoadC g ad F1 (160 + 5 * (a + 1)) (rst v (a + 1)) := (rL (a + 1) (by omega)).at (fun i h1 h2 => by rw [eF1, va_up_ne _ _ (by omega)])
        obtain ⟨m0, m1, m2, m3, m4⟩ := id rLb
        refine r_callv B hC hl.1 (160 + 5 * (a + 1)) 3 rfl rfl (by omega) m0 (As := [.ref (ad (160 + 5 * a))]) (ctX3_copyFrom l g lo ad (b := 160 + 5 * (a + 1)) (by omega) rLb (b2 := 160 + 5 * a) (by omega) (by omega) rLa (okR (a + 1) (by omega)) (okR a (by omega))) gX4_makeNextMove_X3_copyFrom rfl (n := 1) rfl (by decide +kernel) ⟨Nat.le_of_ble_eq_true rfl, Nat.le_of_ble_eq_true rfl⟩ ⟨Nat.zero_le _, Nat.zero_le _⟩ rfl (Nat.le_of_ble_eq_true rfl) dX4_makeNextMove_92 (fun F2 H locs hp92 hC => ?_)
        obtain ⟨hLj, hs_F2⟩ := hp92
        have g0_F2 : F2 3 = .inr (2, [.ref (ad (4)), .ref (ad (5)), .ref (ad (6)), .ref (ad (7)), .int (nI (hn h)), .int (nI (hpu h)), .int (nI (hho h))]) := (hs_F2 _ (by omega)).trans g0_F1
        have g1_F2 : F2 4 = .inl (g.2.2 0, 10, .inl (fun j => nI (hle h j))) := (hs_F2 _ (by omega)).trans g1_F1
        have g2_F2 : F2 5 = .inl (g.2.2 0, 10, .inl (fun j => nI (hin_ h j))) := (hs_F2 _ (by omega)).trans g2_F1
        have g3_F2 : F2 6 = .inl (g.2.2 0, 10, .inl (fun j => oI (hre h j))) := (hs_F2 _ (by omega)).trans g3_F1
        have g4_F2 : F2 7 = .inl (g.2.2 0, 10, .inl (fun j => oI (hsh h j))) := (hs_F2 _ (by omega)).trans g4_F1
        have r0_F2 : F2 157 = .inr (4, [.ref (ad (3)), .ref (ad (158)), .ref (ad (159)), .int (nI (rmv v)), .int (bI (rbg v))]) := (hs_F2 _ (by omega)).trans r0_F1
        have r1_F2 : F2 158 = .inl (g.2.2 4, 3, .inr (.inr (.inr (.inr (fun k => some (ad (160 + 5 * k))))))) := (hs_F2 _ (by omega)).trans r1_F1
        have k159_F2 : F2 159 = .inl (g.2.2 0, 2, .inl (fun j => y1 (va_up (rro v) a (some m) j))) := (hs_F2 _ (by omega)).trans k159_F1
        have hH2 : HullC g ad F2 h := ⟨g0_F2, g1_F2, g2_F2, g3_F2, g4_F2⟩
        refine lv_aload_n B.1 B.2.1 dX4_makeNextMove_95 rfl (lv_at hl 3 rfl) ?_
        refine r_cg B hC (i := 157) (by decide) r0_F2 (C := RX4) (T := TX4) (n := 5) rfl iwX4_makeNextMove_X4 0 (by decide) (index := 29) flX4_makeNextMove_29 rfl (v := .ref (ad (3))) rfl dX4_makeNextMove_96 ?_
        refine lv_iload_n B.1 B.2.1 dX4_makeNextMove_99 rfl (lv_at hl 1 rfl) ?_
        refine lv_iload B.1 B.2.1 dX4_makeNextMove_100 (lv_at hl 0 rfl) ?_
        refine lv_aload_n B.1 B.2.1 dX4_makeNextMove_102 rfl (lv_at hl 3 rfl) ?_
        refine r_cg B hC (i := 157) (by decide) r0_F2 (C := RX4) (T := TX4) (n := 5) rfl iwX4_makeNextMove_X4 1 (by decide) (index := 11) flX4_makeNextMove_11 rfl (v := .ref (ad (158))) rfl dX4_makeNextMove_103 ?_
        refine lv_iload_n B.1 B.2.1 dX4_makeNextMove_106 rfl (lv_at hl 4 rfl) ?_
        refine lv_iconst (v := nI 1) B.1 B.2.1 dX4_makeNextMove_107 (by decide) ?_
        refine lv_iadd B.1 B.2.1 dX4_makeNextMove_108 ?_
        refine r_tI (y := nI (a + 1)) (nI_add _ _) ?_
        refine r_cqald B hC (i := 158) (by decide) r1_F2 (j := (a + 1)) (by omega) (by decide) (t := ad (160 + 5 * (a + 1))) (rfl) dX4_makeNextMove_109 ?_
        refine r_callv B hC hl.1 (3) 2 rfl rfl (by decide) g0_F2 (As := [.int (nI (m / 10)), .int (nI (m % 10)), .ref (ad (160 + 5 * (a + 1)))]) (ctX2_bringInto l g lo ad hH2 ok (b := 160 + 5 * (a + 1)) (by omega) hLj hw (t := m / 10) (p := m % 10) (by omega) (fitsV_p (mayV_f q_68).1).1) gX4_makeNextMove_X2_bringInto rfl (n := 3) rfl (by decide +kernel) ⟨Nat.le_of_ble_eq_true rfl, Nat.le_of_ble_eq_true rfl⟩ ⟨Nat.zero_le _, Nat.zero_le _⟩ rfl (Nat.le_of_ble_eq_true rfl) dX4_makeNextMove_110 (fun F3 H locs hp110 hC => ?_)
        obtain ⟨hLk, hs_F3⟩ := hp110
        have g0_F3 : F3 3 = .inr (2, [.ref (ad (4)), .ref (ad (5)), .ref (ad (6)), .ref (ad (7)), .int (nI (hn h)), .int (nI (hpu h)), .int (nI (hho h))]) := (hs_F3 _ (by omega)).trans g0_F2
        have g1_F3 : F3 4 = .inl (g.2.2 0, 10, .inl (fun j => nI (hle h j))) := (hs_F3 _ (by omega)).trans g1_F2
        have g2_F3 : F3 5 = .inl (g.2.2 0, 10, .inl (fun j => nI (hin_ h j))) := (hs_F3 _ (by omega)).trans g2_F2
        have g3_F3 : F3 6 = .inl (g.2.2 0, 10, .inl (fun j => oI (hre h j))) := (hs_F3 _ (by omega)).trans g3_F2
        have g4_F3 : F3 7 = .inl (g.2.2 0, 10, .inl (fun j => oI (hsh h j))) := (hs_F3 _ (by omega)).trans g4_F2
        have r0_F3 : F3 157 = .inr (4, [.ref (ad (3)), .ref (ad (158)), .ref (ad (159)), .int (nI (rmv v)), .int (bI (rbg v))]) := (hs_F3 _ (by omega)).trans r0_F2
        have r1_F3 : F3 158 = .inl (g.2.2 4, 3, .inr (.inr (.inr (.inr (fun k => some (ad (160 + 5 * k))))))) := (hs_F3 _ (by omega)).trans r1_F2
        have k159_F3 : F3 159 = .inl (g.2.2 0, 2, .inl (fun j => y1 (va_up (rro v) a (some m) j))) := (hs_F3 _ (by omega)).trans k159_F2
        refine lv_iconst (v := nI 1) B.1 B.2.1 dX4_makeNextMove_113 (by decide) ?_
        exact r_eZ B hC (v := nI 1) (rfl) (by
      refine Or.inr ⟨m, rfl, hnx, by omega, by rw [hL1, L1_yes (by omega) q_68], q_68, ⟨r0_F3, r1_F3, k159_F3, steps_upd (j := a + 1) rL hLk (fun i h1 h2 h3 => by rw [hs_F3 i (by omega)]; rw [hs_F2 i (by omega)]; rw [eF1, va_up_ne _ _ (by omega)])⟩, fun i h1 => by rw [hs_F3 i (by omega)]; rw [hs_F2 i (by omega)]; rw [eF1, va_up_ne _ _ (by omega)]⟩) dX4_makeNextMove_114
  exact loop35 (100 - nx (rro v a)) (nx (rro v a)) (by omega) (Nat.le_refl _) rfl _ _ ls hC (lv_sub hl [0, 1, 2] rfl)
end
