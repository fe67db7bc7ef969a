/-! ===== rows, out of the kit's: numbers and branches ===== -/
theorem r_iconst {g : pG} {M : pM} {E : pE} {pc : Nat} {L : pL} {st : List Value} {S : pS} {k n : Nat} {c0 : Int} {v : Int32} (hdg : decode M.2.1 pc = .ok (.iconst c0, 1)) (hv : Int32.ofInt c0 = v) (kk : PW g M E (pc + 1) L (.int v :: st) S k n) : PW g M E pc L (st) S k n := by
  intro p e s m args below meth c H locs ls hF hW hN hS hL
  exact lv_iconst hF.1 hF.2.1 hdg hv (kk p e s m args below meth c H locs ls hF hW hN hS hL)
theorem r_bipush {g : pG} {M : pM} {E : pE} {pc : Nat} {L : pL} {st : List Value} {S : pS} {k n : Nat} {c0 : Int} {v : Int32} (hdg : decode M.2.1 pc = .ok (.bipush c0, 2)) (hv : (Int8.ofInt c0).toInt32 = v) (kk : PW g M E (pc + 2) L (.int v :: st) S k n) : PW g M E pc L (st) S k n := by
  intro p e s m args below meth c H locs ls hF hW hN hS hL
  exact lv_bipush hF.1 hF.2.1 hdg hv (kk p e s m args below meth c H locs ls hF hW hN hS hL)
theorem r_sipush {g : pG} {M : pM} {E : pE} {pc : Nat} {L : pL} {st : List Value} {S : pS} {k n : Nat} {c0 : Int} {v : Int32} (hdg : decode M.2.1 pc = .ok (.sipush c0, 3)) (hv : (Int16.ofInt c0).toInt32 = v) (kk : PW g M E (pc + 3) L (.int v :: st) S k n) : PW g M E pc L (st) S k n := by
  intro p e s m args below meth c H locs ls hF hW hN hS hL
  exact lv_sipush hF.1 hF.2.1 hdg hv (kk p e s m args below meth c H locs ls hF hW hN hS hL)
theorem r_lconst {g : pG} {M : pM} {E : pE} {pc : Nat} {L : pL} {st : List Value} {S : pS} {k n : Nat} {c0 : Fin 2} {v : Int64} (hdg : decode M.2.1 pc = .ok (.lconst c0, 1)) (hv : Int64.ofNat (c0 : Nat) = v) (kk : PW g M E (pc + 1) L (.long v :: st) S k n) : PW g M E pc L (st) S k n := by
  intro p e s m args below meth c H locs ls hF hW hN hS hL
  exact lv_lconst hF.1 hF.2.1 hdg hv (kk p e s m args below meth c H locs ls hF hW hN hS hL)
theorem r_iadd {g : pG} {M : pM} {E : pE} {pc : Nat} {L : pL} {st : List Value} {S : pS} {k n : Nat} {x y : Int32} (hdg : decode M.2.1 pc = .ok (.iadd, 1)) (kk : PW g M E (pc + 1) L (.int (x + y) :: st) S k n) : PW g M E pc L (.int y :: .int x :: st) S k n := by
  intro p e s m args below meth c H locs ls hF hW hN hS hL
  exact lv_iadd hF.1 hF.2.1 hdg (kk p e s m args below meth c H locs ls hF hW hN hS hL)
theorem r_isub {g : pG} {M : pM} {E : pE} {pc : Nat} {L : pL} {st : List Value} {S : pS} {k n : Nat} {x y : Int32} (hdg : decode M.2.1 pc = .ok (.isub, 1)) (kk : PW g M E (pc + 1) L (.int (x - y) :: st) S k n) : PW g M E pc L (.int y :: .int x :: st) S k n := by
  intro p e s m args below meth c H locs ls hF hW hN hS hL
  exact lv_isub hF.1 hF.2.1 hdg (kk p e s m args below meth c H locs ls hF hW hN hS hL)
theorem r_imul {g : pG} {M : pM} {E : pE} {pc : Nat} {L : pL} {st : List Value} {S : pS} {k n : Nat} {x y : Int32} (hdg : decode M.2.1 pc = .ok (.imul, 1)) (kk : PW g M E (pc + 1) L (.int (x * y) :: st) S k n) : PW g M E pc L (.int y :: .int x :: st) S k n := by
  intro p e s m args below meth c H locs ls hF hW hN hS hL
  exact lv_imul hF.1 hF.2.1 hdg (kk p e s m args below meth c H locs ls hF hW hN hS hL)
theorem r_iand {g : pG} {M : pM} {E : pE} {pc : Nat} {L : pL} {st : List Value} {S : pS} {k n : Nat} {x y : Int32} (hdg : decode M.2.1 pc = .ok (.iand, 1)) (kk : PW g M E (pc + 1) L (.int (x &&& y) :: st) S k n) : PW g M E pc L (.int y :: .int x :: st) S k n := by
  intro p e s m args below meth c H locs ls hF hW hN hS hL
  exact lv_iand hF.1 hF.2.1 hdg (kk p e s m args below meth c H locs ls hF hW hN hS hL)
theorem r_ior {g : pG} {M : pM} {E : pE} {pc : Nat} {L : pL} {st : List Value} {S : pS} {k n : Nat} {x y : Int32} (hdg : decode M.2.1 pc = .ok (.ior, 1)) (kk : PW g M E (pc + 1) L (.int (x ||| y) :: st) S k n) : PW g M E pc L (.int y :: .int x :: st) S k n := by
  intro p e s m args below meth c H locs ls hF hW hN hS hL
  exact lv_ior hF.1 hF.2.1 hdg (kk p e s m args below meth c H locs ls hF hW hN hS hL)
theorem r_ixor {g : pG} {M : pM} {E : pE} {pc : Nat} {L : pL} {st : List Value} {S : pS} {k n : Nat} {x y : Int32} (hdg : decode M.2.1 pc = .ok (.ixor, 1)) (kk : PW g M E (pc + 1) L (.int (x ^^^ y) :: st) S k n) : PW g M E pc L (.int y :: .int x :: st) S k n := by
  intro p e s m args below meth c H locs ls hF hW hN hS hL
  exact lv_ixor hF.1 hF.2.1 hdg (kk p e s m args below meth c H locs ls hF hW hN hS hL)
theorem r_idiv {g : pG} {M : pM} {E : pE} {pc : Nat} {L : pL} {st : List Value} {S : pS} {k n : Nat} {x y : Int32} (hdg : decode M.2.1 pc = .ok (.idiv, 1)) (hne : ¬ y = 0) (kk : PW g M E (pc + 1) L (.int (x / y) :: st) S k n) : PW g M E pc L (.int y :: .int x :: st) S k n := by
  intro p e s m args below meth c H locs ls hF hW hN hS hL
  exact lv_idiv hF.1 hF.2.1 hdg hne (kk p e s m args below meth c H locs ls hF hW hN hS hL)
theorem r_irem {g : pG} {M : pM} {E : pE} {pc : Nat} {L : pL} {st : List Value} {S : pS} {k n : Nat} {x y : Int32} (hdg : decode M.2.1 pc = .ok (.irem, 1)) (hne : ¬ y = 0) (kk : PW g M E (pc + 1) L (.int (x - x / y * y) :: st) S k n) : PW g M E pc L (.int y :: .int x :: st) S k n := by
  intro p e s m args below meth c H locs ls hF hW hN hS hL
  exact lv_irem hF.1 hF.2.1 hdg hne (kk p e s m args below meth c H locs ls hF hW hN hS hL)
theorem r_ineg {g : pG} {M : pM} {E : pE} {pc : Nat} {L : pL} {st : List Value} {S : pS} {k n : Nat} {x : Int32} (hdg : decode M.2.1 pc = .ok (.ineg, 1)) (kk : PW g M E (pc + 1) L (.int (-x) :: st) S k n) : PW g M E pc L (.int x :: st) S k n := by
  intro p e s m args below meth c H locs ls hF hW hN hS hL
  exact lv_ineg hF.1 hF.2.1 hdg (kk p e s m args below meth c H locs ls hF hW hN hS hL)
theorem r_ladd {g : pG} {M : pM} {E : pE} {pc : Nat} {L : pL} {st : List Value} {S : pS} {k n : Nat} {x y : Int64} (hdg : decode M.2.1 pc = .ok (.ladd, 1)) (kk : PW g M E (pc + 1) L (.long (x + y) :: st) S k n) : PW g M E pc L (.long y :: .long x :: st) S k n := by
  intro p e s m args below meth c H locs ls hF hW hN hS hL
  exact lv_ladd hF.1 hF.2.1 hdg (kk p e s m args below meth c H locs ls hF hW hN hS hL)
theorem r_lsub {g : pG} {M : pM} {E : pE} {pc : Nat} {L : pL} {st : List Value} {S : pS} {k n : Nat} {x y : Int64} (hdg : decode M.2.1 pc = .ok (.lsub, 1)) (kk : PW g M E (pc + 1) L (.long (x - y) :: st) S k n) : PW g M E pc L (.long y :: .long x :: st) S k n := by
  intro p e s m args below meth c H locs ls hF hW hN hS hL
  exact lv_lsub hF.1 hF.2.1 hdg (kk p e s m args below meth c H locs ls hF hW hN hS hL)
theorem r_lmul {g : pG} {M : pM} {E : pE} {pc : Nat} {L : pL} {st : List Value} {S : pS} {k n : Nat} {x y : Int64} (hdg : decode M.2.1 pc = .ok (.lmul, 1)) (kk : PW g M E (pc + 1) L (.long (x * y) :: st) S k n) : PW g M E pc L (.long y :: .long x :: st) S k n := by
  intro p e s m args below meth c H locs ls hF hW hN hS hL
  exact lv_lmul hF.1 hF.2.1 hdg (kk p e s m args below meth c H locs ls hF hW hN hS hL)
theorem r_land {g : pG} {M : pM} {E : pE} {pc : Nat} {L : pL} {st : List Value} {S : pS} {k n : Nat} {x y : Int64} (hdg : decode M.2.1 pc = .ok (.land, 1)) (kk : PW g M E (pc + 1) L (.long (x &&& y) :: st) S k n) : PW g M E pc L (.long y :: .long x :: st) S k n := by
  intro p e s m args below meth c H locs ls hF hW hN hS hL
  exact lv_land hF.1 hF.2.1 hdg (kk p e s m args below meth c H locs ls hF hW hN hS hL)
theorem r_lor {g : pG} {M : pM} {E : pE} {pc : Nat} {L : pL} {st : List Value} {S : pS} {k n : Nat} {x y : Int64} (hdg : decode M.2.1 pc = .ok (.lor, 1)) (kk : PW g M E (pc + 1) L (.long (x ||| y) :: st) S k n) : PW g M E pc L (.long y :: .long x :: st) S k n := by
  intro p e s m args below meth c H locs ls hF hW hN hS hL
  exact lv_lor hF.1 hF.2.1 hdg (kk p e s m args below meth c H locs ls hF hW hN hS hL)
theorem r_lxor {g : pG} {M : pM} {E : pE} {pc : Nat} {L : pL} {st : List Value} {S : pS} {k n : Nat} {x y : Int64} (hdg : decode M.2.1 pc = .ok (.lxor, 1)) (kk : PW g M E (pc + 1) L (.long (x ^^^ y) :: st) S k n) : PW g M E pc L (.long y :: .long x :: st) S k n := by
  intro p e s m args below meth c H locs ls hF hW hN hS hL
  exact lv_lxor hF.1 hF.2.1 hdg (kk p e s m args below meth c H locs ls hF hW hN hS hL)
theorem r_ldiv {g : pG} {M : pM} {E : pE} {pc : Nat} {L : pL} {st : List Value} {S : pS} {k n : Nat} {x y : Int64} (hdg : decode M.2.1 pc = .ok (.ldiv, 1)) (hne : ¬ y = 0) (kk : PW g M E (pc + 1) L (.long (x / y) :: st) S k n) : PW g M E pc L (.long y :: .long x :: st) S k n := by
  intro p e s m args below meth c H locs ls hF hW hN hS hL
  exact lv_ldiv hF.1 hF.2.1 hdg hne (kk p e s m args below meth c H locs ls hF hW hN hS hL)
theorem r_lrem {g : pG} {M : pM} {E : pE} {pc : Nat} {L : pL} {st : List Value} {S : pS} {k n : Nat} {x y : Int64} (hdg : decode M.2.1 pc = .ok (.lrem, 1)) (hne : ¬ y = 0) (kk : PW g M E (pc + 1) L (.long (x - x / y * y) :: st) S k n) : PW g M E pc L (.long y :: .long x :: st) S k n := by
  intro p e s m args below meth c H locs ls hF hW hN hS hL
  exact lv_lrem hF.1 hF.2.1 hdg hne (kk p e s m args below meth c H locs ls hF hW hN hS hL)
theorem r_ishl {g : pG} {M : pM} {E : pE} {pc : Nat} {L : pL} {st : List Value} {S : pS} {k n : Nat} {x y : Int32} (hdg : decode M.2.1 pc = .ok (.ishl, 1)) (kk : PW g M E (pc + 1) L (.int (x <<< (y &&& 31)) :: st) S k n) : PW g M E pc L (.int y :: .int x :: st) S k n := by
  intro p e s m args below meth c H locs ls hF hW hN hS hL
  exact lv_ishl hF.1 hF.2.1 hdg (kk p e s m args below meth c H locs ls hF hW hN hS hL)
theorem r_ishr {g : pG} {M : pM} {E : pE} {pc : Nat} {L : pL} {st : List Value} {S : pS} {k n : Nat} {x y : Int32} (hdg : decode M.2.1 pc = .ok (.ishr, 1)) (kk : PW g M E (pc + 1) L (.int (x >>> (y &&& 31)) :: st) S k n) : PW g M E pc L (.int y :: .int x :: st) S k n := by
  intro p e s m args below meth c H locs ls hF hW hN hS hL
  exact lv_ishr hF.1 hF.2.1 hdg (kk p e s m args below meth c H locs ls hF hW hN hS hL)
theorem r_iushr {g : pG} {M : pM} {E : pE} {pc : Nat} {L : pL} {st : List Value} {S : pS} {k n : Nat} {x y v : Int32} (hdg : decode M.2.1 pc = .ok (.iushr, 1)) (hv : (x.toUInt32 >>> (y.toUInt32 &&& Int32.toUInt32 31)).toInt32 = v) (kk : PW g M E (pc + 1) L (.int v :: st) S k n) : PW g M E pc L (.int y :: .int x :: st) S k n := by
  intro p e s m args below meth c H locs ls hF hW hN hS hL
  exact lv_iushr hF.1 hF.2.1 hdg hv (kk p e s m args below meth c H locs ls hF hW hN hS hL)
theorem r_lshl {g : pG} {M : pM} {E : pE} {pc : Nat} {L : pL} {st : List Value} {S : pS} {k n : Nat} {x v : Int64} {y : Int32} (hdg : decode M.2.1 pc = .ok (.lshl, 1)) (hv : x <<< (y.toInt64 &&& 63) = v) (kk : PW g M E (pc + 1) L (.long v :: st) S k n) : PW g M E pc L (.int y :: .long x :: st) S k n := by
  intro p e s m args below meth c H locs ls hF hW hN hS hL
  exact lv_lshl hF.1 hF.2.1 hdg hv (kk p e s m args below meth c H locs ls hF hW hN hS hL)
theorem r_lshr {g : pG} {M : pM} {E : pE} {pc : Nat} {L : pL} {st : List Value} {S : pS} {k n : Nat} {x v : Int64} {y : Int32} (hdg : decode M.2.1 pc = .ok (.lshr, 1)) (hv : x >>> (y.toInt64 &&& 63) = v) (kk : PW g M E (pc + 1) L (.long v :: st) S k n) : PW g M E pc L (.int y :: .long x :: st) S k n := by
  intro p e s m args below meth c H locs ls hF hW hN hS hL
  exact lv_lshr hF.1 hF.2.1 hdg hv (kk p e s m args below meth c H locs ls hF hW hN hS hL)
theorem r_lushr {g : pG} {M : pM} {E : pE} {pc : Nat} {L : pL} {st : List Value} {S : pS} {k n : Nat} {x v : Int64} {y : Int32} (hdg : decode M.2.1 pc = .ok (.lushr, 1)) (hv : (x.toUInt64 >>> (y.toInt64.toUInt64 &&& Int64.toUInt64 63)).toInt64 = v) (kk : PW g M E (pc + 1) L (.long v :: st) S k n) : PW g M E pc L (.int y :: .long x :: st) S k n := by
  intro p e s m args below meth c H locs ls hF hW hN hS hL
  exact lv_lushr hF.1 hF.2.1 hdg hv (kk p e s m args below meth c H locs ls hF hW hN hS hL)
theorem r_i2l {g : pG} {M : pM} {E : pE} {pc : Nat} {L : pL} {st : List Value} {S : pS} {k n : Nat} {x : Int32} {v : Int64} (hdg : decode M.2.1 pc = .ok (.i2l, 1)) (hv : x.toInt64 = v) (kk : PW g M E (pc + 1) L (.long v :: st) S k n) : PW g M E pc L (.int x :: st) S k n := by
  intro p e s m args below meth c H locs ls hF hW hN hS hL
  exact lv_i2l hF.1 hF.2.1 hdg hv (kk p e s m args below meth c H locs ls hF hW hN hS hL)
theorem r_l2i {g : pG} {M : pM} {E : pE} {pc : Nat} {L : pL} {st : List Value} {S : pS} {k n : Nat} {x : Int64} {v : Int32} (hdg : decode M.2.1 pc = .ok (.l2i, 1)) (hv : x.toInt32 = v) (kk : PW g M E (pc + 1) L (.int v :: st) S k n) : PW g M E pc L (.long x :: st) S k n := by
  intro p e s m args below meth c H locs ls hF hW hN hS hL
  exact lv_l2i hF.1 hF.2.1 hdg hv (kk p e s m args below meth c H locs ls hF hW hN hS hL)
theorem r_i2b {g : pG} {M : pM} {E : pE} {pc : Nat} {L : pL} {st : List Value} {S : pS} {k n : Nat} {x : Int32} {v : Int32} (hdg : decode M.2.1 pc = .ok (.i2b, 1)) (hv : x.toInt8.toInt32 = v) (kk : PW g M E (pc + 1) L (.int v :: st) S k n) : PW g M E pc L (.int x :: st) S k n := by
  intro p e s m args below meth c H locs ls hF hW hN hS hL
  exact lv_i2b hF.1 hF.2.1 hdg hv (kk p e s m args below meth c H locs ls hF hW hN hS hL)
theorem r_i2s {g : pG} {M : pM} {E : pE} {pc : Nat} {L : pL} {st : List Value} {S : pS} {k n : Nat} {x : Int32} {v : Int32} (hdg : decode M.2.1 pc = .ok (.i2s, 1)) (hv : x.toInt16.toInt32 = v) (kk : PW g M E (pc + 1) L (.int v :: st) S k n) : PW g M E pc L (.int x :: st) S k n := by
  intro p e s m args below meth c H locs ls hF hW hN hS hL
  exact lv_i2s hF.1 hF.2.1 hdg hv (kk p e s m args below meth c H locs ls hF hW hN hS hL)
theorem r_i2c {g : pG} {M : pM} {E : pE} {pc : Nat} {L : pL} {st : List Value} {S : pS} {k n : Nat} {x : Int32} {v : Int32} (hdg : decode M.2.1 pc = .ok (.i2c, 1)) (hv : (x.toUInt32 % 65536).toInt32 = v) (kk : PW g M E (pc + 1) L (.int v :: st) S k n) : PW g M E pc L (.int x :: st) S k n := by
  intro p e s m args below meth c H locs ls hF hW hN hS hL
  exact lv_i2c hF.1 hF.2.1 hdg hv (kk p e s m args below meth c H locs ls hF hW hN hS hL)
theorem r_if_eq {g : pG} {M : pM} {E : pE} {pc : Nat} {L : pL} {st : List Value} {S : pS} {k n : Nat} {x : Int32} {off : Int} {tgt : Nat} (hdg : decode M.2.1 pc = .ok (.ifCond .eq off, 3)) (ht : (pc : Int) + off = (tgt : Int)) (kt : x = 0 → PW g M E tgt L st S k n) (kf : ¬ x = 0 → PW g M E (pc + 3) L st S k n) : PW g M E pc L (.int x :: st) S k n := by
  intro p e s m args below meth c H locs ls hF hW hN hS hL
  exact lv_if_eq hF.1 hF.2.1 hdg ht (fun z => kt z p e s m args below meth c H locs ls hF hW hN hS hL) (fun z => kf z p e s m args below meth c H locs ls hF hW hN hS hL)
theorem r_if_ne {g : pG} {M : pM} {E : pE} {pc : Nat} {L : pL} {st : List Value} {S : pS} {k n : Nat} {x : Int32} {off : Int} {tgt : Nat} (hdg : decode M.2.1 pc = .ok (.ifCond .ne off, 3)) (ht : (pc : Int) + off = (tgt : Int)) (kt : ¬ x = 0 → PW g M E tgt L st S k n) (kf : x = 0 → PW g M E (pc + 3) L st S k n) : PW g M E pc L (.int x :: st) S k n := by
  intro p e s m args below meth c H locs ls hF hW hN hS hL
  exact lv_if_ne hF.1 hF.2.1 hdg ht (fun z => kt z p e s m args below meth c H locs ls hF hW hN hS hL) (fun z => kf z p e s m args below meth c H locs ls hF hW hN hS hL)
theorem r_if_lt {g : pG} {M : pM} {E : pE} {pc : Nat} {L : pL} {st : List Value} {S : pS} {k n : Nat} {x : Int32} {off : Int} {tgt : Nat} (hdg : decode M.2.1 pc = .ok (.ifCond .lt off, 3)) (ht : (pc : Int) + off = (tgt : Int)) (kt : x < 0 → PW g M E tgt L st S k n) (kf : ¬ x < 0 → PW g M E (pc + 3) L st S k n) : PW g M E pc L (.int x :: st) S k n := by
  intro p e s m args below meth c H locs ls hF hW hN hS hL
  exact lv_if_lt hF.1 hF.2.1 hdg ht (fun z => kt z p e s m args below meth c H locs ls hF hW hN hS hL) (fun z => kf z p e s m args below meth c H locs ls hF hW hN hS hL)
theorem r_if_ge {g : pG} {M : pM} {E : pE} {pc : Nat} {L : pL} {st : List Value} {S : pS} {k n : Nat} {x : Int32} {off : Int} {tgt : Nat} (hdg : decode M.2.1 pc = .ok (.ifCond .ge off, 3)) (ht : (pc : Int) + off = (tgt : Int)) (kt : 0 ≤ x → PW g M E tgt L st S k n) (kf : ¬ 0 ≤ x → PW g M E (pc + 3) L st S k n) : PW g M E pc L (.int x :: st) S k n := by
  intro p e s m args below meth c H locs ls hF hW hN hS hL
  exact lv_if_ge hF.1 hF.2.1 hdg ht (fun z => kt z p e s m args below meth c H locs ls hF hW hN hS hL) (fun z => kf z p e s m args below meth c H locs ls hF hW hN hS hL)
theorem r_if_gt {g : pG} {M : pM} {E : pE} {pc : Nat} {L : pL} {st : List Value} {S : pS} {k n : Nat} {x : Int32} {off : Int} {tgt : Nat} (hdg : decode M.2.1 pc = .ok (.ifCond .gt off, 3)) (ht : (pc : Int) + off = (tgt : Int)) (kt : 0 < x → PW g M E tgt L st S k n) (kf : ¬ 0 < x → PW g M E (pc + 3) L st S k n) : PW g M E pc L (.int x :: st) S k n := by
  intro p e s m args below meth c H locs ls hF hW hN hS hL
  exact lv_if_gt hF.1 hF.2.1 hdg ht (fun z => kt z p e s m args below meth c H locs ls hF hW hN hS hL) (fun z => kf z p e s m args below meth c H locs ls hF hW hN hS hL)
theorem r_if_le {g : pG} {M : pM} {E : pE} {pc : Nat} {L : pL} {st : List Value} {S : pS} {k n : Nat} {x : Int32} {off : Int} {tgt : Nat} (hdg : decode M.2.1 pc = .ok (.ifCond .le off, 3)) (ht : (pc : Int) + off = (tgt : Int)) (kt : x ≤ 0 → PW g M E tgt L st S k n) (kf : ¬ x ≤ 0 → PW g M E (pc + 3) L st S k n) : PW g M E pc L (.int x :: st) S k n := by
  intro p e s m args below meth c H locs ls hF hW hN hS hL
  exact lv_if_le hF.1 hF.2.1 hdg ht (fun z => kt z p e s m args below meth c H locs ls hF hW hN hS hL) (fun z => kf z p e s m args below meth c H locs ls hF hW hN hS hL)
theorem r_icmp_eq {g : pG} {M : pM} {E : pE} {pc : Nat} {L : pL} {st : List Value} {S : pS} {k n : Nat} {x y : Int32} {off : Int} {tgt : Nat} (hdg : decode M.2.1 pc = .ok (.if_icmp .eq off, 3)) (ht : (pc : Int) + off = (tgt : Int)) (kt : x = y → PW g M E tgt L st S k n) (kf : ¬ x = y → PW g M E (pc + 3) L st S k n) : PW g M E pc L (.int y :: .int x :: st) S k n := by
  intro p e s m args below meth c H locs ls hF hW hN hS hL
  exact lv_icmp_eq hF.1 hF.2.1 hdg ht (fun z => kt z p e s m args below meth c H locs ls hF hW hN hS hL) (fun z => kf z p e s m args below meth c H locs ls hF hW hN hS hL)
theorem r_icmp_ne {g : pG} {M : pM} {E : pE} {pc : Nat} {L : pL} {st : List Value} {S : pS} {k n : Nat} {x y : Int32} {off : Int} {tgt : Nat} (hdg : decode M.2.1 pc = .ok (.if_icmp .ne off, 3)) (ht : (pc : Int) + off = (tgt : Int)) (kt : ¬ x = y → PW g M E tgt L st S k n) (kf : x = y → PW g M E (pc + 3) L st S k n) : PW g M E pc L (.int y :: .int x :: st) S k n := by
  intro p e s m args below meth c H locs ls hF hW hN hS hL
  exact lv_icmp_ne hF.1 hF.2.1 hdg ht (fun z => kt z p e s m args below meth c H locs ls hF hW hN hS hL) (fun z => kf z p e s m args below meth c H locs ls hF hW hN hS hL)
theorem r_icmp_lt {g : pG} {M : pM} {E : pE} {pc : Nat} {L : pL} {st : List Value} {S : pS} {k n : Nat} {x y : Int32} {off : Int} {tgt : Nat} (hdg : decode M.2.1 pc = .ok (.if_icmp .lt off, 3)) (ht : (pc : Int) + off = (tgt : Int)) (kt : x < y → PW g M E tgt L st S k n) (kf : ¬ x < y → PW g M E (pc + 3) L st S k n) : PW g M E pc L (.int y :: .int x :: st) S k n := by
  intro p e s m args below meth c H locs ls hF hW hN hS hL
  exact lv_icmp_lt hF.1 hF.2.1 hdg ht (fun z => kt z p e s m args below meth c H locs ls hF hW hN hS hL) (fun z => kf z p e s m args below meth c H locs ls hF hW hN hS hL)
theorem r_icmp_ge {g : pG} {M : pM} {E : pE} {pc : Nat} {L : pL} {st : List Value} {S : pS} {k n : Nat} {x y : Int32} {off : Int} {tgt : Nat} (hdg : decode M.2.1 pc = .ok (.if_icmp .ge off, 3)) (ht : (pc : Int) + off = (tgt : Int)) (kt : y ≤ x → PW g M E tgt L st S k n) (kf : ¬ y ≤ x → PW g M E (pc + 3) L st S k n) : PW g M E pc L (.int y :: .int x :: st) S k n := by
  intro p e s m args below meth c H locs ls hF hW hN hS hL
  exact lv_icmp_ge hF.1 hF.2.1 hdg ht (fun z => kt z p e s m args below meth c H locs ls hF hW hN hS hL) (fun z => kf z p e s m args below meth c H locs ls hF hW hN hS hL)
theorem r_icmp_gt {g : pG} {M : pM} {E : pE} {pc : Nat} {L : pL} {st : List Value} {S : pS} {k n : Nat} {x y : Int32} {off : Int} {tgt : Nat} (hdg : decode M.2.1 pc = .ok (.if_icmp .gt off, 3)) (ht : (pc : Int) + off = (tgt : Int)) (kt : y < x → PW g M E tgt L st S k n) (kf : ¬ y < x → PW g M E (pc + 3) L st S k n) : PW g M E pc L (.int y :: .int x :: st) S k n := by
  intro p e s m args below meth c H locs ls hF hW hN hS hL
  exact lv_icmp_gt hF.1 hF.2.1 hdg ht (fun z => kt z p e s m args below meth c H locs ls hF hW hN hS hL) (fun z => kf z p e s m args below meth c H locs ls hF hW hN hS hL)
theorem r_icmp_le {g : pG} {M : pM} {E : pE} {pc : Nat} {L : pL} {st : List Value} {S : pS} {k n : Nat} {x y : Int32} {off : Int} {tgt : Nat} (hdg : decode M.2.1 pc = .ok (.if_icmp .le off, 3)) (ht : (pc : Int) + off = (tgt : Int)) (kt : x ≤ y → PW g M E tgt L st S k n) (kf : ¬ x ≤ y → PW g M E (pc + 3) L st S k n) : PW g M E pc L (.int y :: .int x :: st) S k n := by
  intro p e s m args below meth c H locs ls hF hW hN hS hL
  exact lv_icmp_le hF.1 hF.2.1 hdg ht (fun z => kt z p e s m args below meth c H locs ls hF hW hN hS hL) (fun z => kf z p e s m args below meth c H locs ls hF hW hN hS hL)
theorem r_goto {g : pG} {M : pM} {E : pE} {pc : Nat} {L : pL} {st : List Value} {S : pS} {k n : Nat} {off : Int} {tgt : Nat} (hdg : decode M.2.1 pc = .ok (.goto off, 3)) (ht : (pc : Int) + off = (tgt : Int)) (kk : PW g M E tgt L st S k n) : PW g M E pc L st S k n := by
  intro p e s m args below meth c H locs ls hF hW hN hS hL
  exact lv_goto hF.1 hF.2.1 hdg ht (kk p e s m args below meth c H locs ls hF hW hN hS hL)
theorem r_lookup {g : pG} {M : pM} {E : pE} {pc : Nat} {L : pL} {st : List Value} {S : pS} {k n : Nat} {dflt : Int} {ps : Array (Int × Int)} {len : Nat} {x : Int32} {off : Int} {tgt : Nat} (hdg : decode M.2.1 pc = .ok (.lookupswitch dflt ps, len)) (hp : (ps.toList.zip (ps.toList.drop 1)).all (fun (a, next) => a.1 < next.1) = true) (ho : Op.lookupswitch.offset ps.toList dflt x.toInt = off) (ht : (pc : Int) + off = (tgt : Int)) (kk : PW g M E tgt L st S k n) : PW g M E pc L (.int x :: st) S k n := by
  intro p e s m args below meth c H locs ls hF hW hN hS hL
  exact lv_lookup hF.1 hF.2.1 hdg hp ho ht (kk p e s m args below meth c H locs ls hF hW hN hS hL)
theorem r_tableOut {g : pG} {M : pM} {E : pE} {pc : Nat} {L : pL} {st : List Value} {S : pS} {k n : Nat} {dflt lo hi : Int} {offs : Array Int} {len : Nat} {x : Int32} {tgt : Nat} (hdg : decode M.2.1 pc = .ok (.tableswitch dflt lo hi offs, len)) (h : x.toInt < lo ∨ hi < x.toInt) (ht : (pc : Int) + dflt = (tgt : Int)) (kk : PW g M E tgt L st S k n) : PW g M E pc L (.int x :: st) S k n := by
  intro p e s m args below meth c H locs ls hF hW hN hS hL
  exact lv_tableOut hF.1 hF.2.1 hdg h ht (kk p e s m args below meth c H locs ls hF hW hN hS hL)
theorem r_tableIn {g : pG} {M : pM} {E : pE} {pc : Nat} {L : pL} {st : List Value} {S : pS} {k n : Nat} {dflt lo hi : Int} {offs : Array Int} {len : Nat} {x : Int32} {off : Int} {tgt : Nat} (hdg : decode M.2.1 pc = .ok (.tableswitch dflt lo hi offs, len)) (h1 : ¬ x.toInt < lo) (h2 : ¬ hi < x.toInt) (ho : offs[(x.toInt - lo).toNat]? = some off) (ht : (pc : Int) + off = (tgt : Int)) (kk : PW g M E tgt L st S k n) : PW g M E pc L (.int x :: st) S k n := by
  intro p e s m args below meth c H locs ls hF hW hN hS hL
  exact lv_tableIn hF.1 hF.2.1 hdg h1 h2 ho ht (kk p e s m args below meth c H locs ls hF hW hN hS hL)
