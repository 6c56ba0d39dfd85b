/-! calls by the number of their arguments; stores that give a name; rows -/
section BASE
variable {G : Gt} {l : Launch} {μ : Mi} {d bc bs pc : Nat} {lv : List (Nat × Value)} {st : List Value} {Z : Zt} {R : Rt} {I : It} {L : Lt} {post : Pt'}
theorem Sx.callV0 {i d' mc' ms' : Nat} {y : Mi} {a : Nat} (hd : decode μ.2.1 pc = .ok (.invokevirtual i, 3)) (hk : LkV μ.1.cls i y 0) (hr : rcv Z a y.1.cls) (hdd : d' + 1 ≤ d) (hm : y.2.2.1 ≤ 80) (hml : stW st ≤ 8) {bc' bs' : Nat} (hb : bc = bc' + mc') (hs : bs = bs' + ms')
    (hC : Cx G l y d' mc' ms' [.ref a] Z R I L (fun v Z' R' I' L' => Sx G l μ d bc' bs' (pc + 3) lv (psh v st) Z' R' I' L' post)) : Sx G l μ d bc bs pc lv (.ref a :: st) Z R I L post :=
  Sx.callV (As := []) hd hk hr rfl hdd hm hml hb hs hC
theorem Sx.callV1 {i d' mc' ms' : Nat} {y : Mi} {a : Nat} {v1 : Value} (hd : decode μ.2.1 pc = .ok (.invokevirtual i, 3)) (hk : LkV μ.1.cls i y 1) (hr : rcv Z a y.1.cls) (hdd : d' + 1 ≤ d) (hm : y.2.2.1 ≤ 80) (hml : stW st ≤ 8) {bc' bs' : Nat} (hb : bc = bc' + mc') (hs : bs = bs' + ms')
    (hC : Cx G l y d' mc' ms' [.ref a, v1] Z R I L (fun v Z' R' I' L' => Sx G l μ d bc' bs' (pc + 3) lv (psh v st) Z' R' I' L' post)) : Sx G l μ d bc bs pc lv (v1 :: .ref a :: st) Z R I L post :=
  Sx.callV (As := [v1]) hd hk hr rfl hdd hm hml hb hs hC
theorem Sx.callV2 {i d' mc' ms' : Nat} {y : Mi} {a : Nat} {v1 v2 : Value} (hd : decode μ.2.1 pc = .ok (.invokevirtual i, 3)) (hk : LkV μ.1.cls i y 2) (hr : rcv Z a y.1.cls) (hdd : d' + 1 ≤ d) (hm : y.2.2.1 ≤ 80) (hml : stW st ≤ 8) {bc' bs' : Nat} (hb : bc = bc' + mc') (hs : bs = bs' + ms')
    (hC : Cx G l y d' mc' ms' [.ref a, v1, v2] Z R I L (fun v Z' R' I' L' => Sx G l μ d bc' bs' (pc + 3) lv (psh v st) Z' R' I' L' post)) : Sx G l μ d bc bs pc lv (v2 :: v1 :: .ref a :: st) Z R I L post :=
  Sx.callV (As := [v1, v2]) hd hk hr rfl hdd hm hml hb hs hC
theorem Sx.callV3 {i d' mc' ms' : Nat} {y : Mi} {a : Nat} {v1 v2 v3 : Value} (hd : decode μ.2.1 pc = .ok (.invokevirtual i, 3)) (hk : LkV μ.1.cls i y 3) (hr : rcv Z a y.1.cls) (hdd : d' + 1 ≤ d) (hm : y.2.2.1 ≤ 80) (hml : stW st ≤ 8) {bc' bs' : Nat} (hb : bc = bc' + mc') (hs : bs = bs' + ms')
    (hC : Cx G l y d' mc' ms' [.ref a, v1, v2, v3] Z R I L (fun v Z' R' I' L' => Sx G l μ d bc' bs' (pc + 3) lv (psh v st) Z' R' I' L' post)) : Sx G l μ d bc bs pc lv (v3 :: v2 :: v1 :: .ref a :: st) Z R I L post :=
  Sx.callV (As := [v1, v2, v3]) hd hk hr rfl hdd hm hml hb hs hC
theorem Sx.callV4 {i d' mc' ms' : Nat} {y : Mi} {a : Nat} {v1 v2 v3 v4 : Value} (hd : decode μ.2.1 pc = .ok (.invokevirtual i, 3)) (hk : LkV μ.1.cls i y 4) (hr : rcv Z a y.1.cls) (hdd : d' + 1 ≤ d) (hm : y.2.2.1 ≤ 80) (hml : stW st ≤ 8) {bc' bs' : Nat} (hb : bc = bc' + mc') (hs : bs = bs' + ms')
    (hC : Cx G l y d' mc' ms' [.ref a, v1, v2, v3, v4] Z R I L (fun v Z' R' I' L' => Sx G l μ d bc' bs' (pc + 3) lv (psh v st) Z' R' I' L' post)) : Sx G l μ d bc bs pc lv (v4 :: v3 :: v2 :: v1 :: .ref a :: st) Z R I L post :=
  Sx.callV (As := [v1, v2, v3, v4]) hd hk hr rfl hdd hm hml hb hs hC
theorem Sx.callV5 {i d' mc' ms' : Nat} {y : Mi} {a : Nat} {v1 v2 v3 v4 v5 : Value} (hd : decode μ.2.1 pc = .ok (.invokevirtual i, 3)) (hk : LkV μ.1.cls i y 5) (hr : rcv Z a y.1.cls) (hdd : d' + 1 ≤ d) (hm : y.2.2.1 ≤ 80) (hml : stW st ≤ 8) {bc' bs' : Nat} (hb : bc = bc' + mc') (hs : bs = bs' + ms')
    (hC : Cx G l y d' mc' ms' [.ref a, v1, v2, v3, v4, v5] Z R I L (fun v Z' R' I' L' => Sx G l μ d bc' bs' (pc + 3) lv (psh v st) Z' R' I' L' post)) : Sx G l μ d bc bs pc lv (v5 :: v4 :: v3 :: v2 :: v1 :: .ref a :: st) Z R I L post :=
  Sx.callV (As := [v1, v2, v3, v4, v5]) hd hk hr rfl hdd hm hml hb hs hC
theorem Sx.callV6 {i d' mc' ms' : Nat} {y : Mi} {a : Nat} {v1 v2 v3 v4 v5 v6 : Value} (hd : decode μ.2.1 pc = .ok (.invokevirtual i, 3)) (hk : LkV μ.1.cls i y 6) (hr : rcv Z a y.1.cls) (hdd : d' + 1 ≤ d) (hm : y.2.2.1 ≤ 80) (hml : stW st ≤ 8) {bc' bs' : Nat} (hb : bc = bc' + mc') (hs : bs = bs' + ms')
    (hC : Cx G l y d' mc' ms' [.ref a, v1, v2, v3, v4, v5, v6] Z R I L (fun v Z' R' I' L' => Sx G l μ d bc' bs' (pc + 3) lv (psh v st) Z' R' I' L' post)) : Sx G l μ d bc bs pc lv (v6 :: v5 :: v4 :: v3 :: v2 :: v1 :: .ref a :: st) Z R I L post :=
  Sx.callV (As := [v1, v2, v3, v4, v5, v6]) hd hk hr rfl hdd hm hml hb hs hC
theorem Sx.callU0 {i d' mc' ms' : Nat} {C owner : String} {x : MethodName} {y : Mi} {a : Nat} (hd : decode μ.2.1 pc = .ok (.invokevirtual i, 3)) (hk : LkU μ.1.cls i C owner x y 0) (hr : rcv Z a C) (hdd : d' + 1 ≤ d) (hm : y.2.2.1 ≤ 80) (hml : stW st ≤ 8) {bc' bs' : Nat} (hb : bc = bc' + mc') (hs : bs = bs' + ms')
    (hC : Cx G l y d' mc' ms' [.ref a] Z R I L (fun v Z' R' I' L' => Sx G l μ d bc' bs' (pc + 3) lv (psh v st) Z' R' I' L' post)) : Sx G l μ d bc bs pc lv (.ref a :: st) Z R I L post :=
  Sx.callU (As := []) hd hk hr rfl hdd hm hml hb hs hC
theorem Sx.callU1 {i d' mc' ms' : Nat} {C owner : String} {x : MethodName} {y : Mi} {a : Nat} {v1 : Value} (hd : decode μ.2.1 pc = .ok (.invokevirtual i, 3)) (hk : LkU μ.1.cls i C owner x y 1) (hr : rcv Z a C) (hdd : d' + 1 ≤ d) (hm : y.2.2.1 ≤ 80) (hml : stW st ≤ 8) {bc' bs' : Nat} (hb : bc = bc' + mc') (hs : bs = bs' + ms')
    (hC : Cx G l y d' mc' ms' [.ref a, v1] Z R I L (fun v Z' R' I' L' => Sx G l μ d bc' bs' (pc + 3) lv (psh v st) Z' R' I' L' post)) : Sx G l μ d bc bs pc lv (v1 :: .ref a :: st) Z R I L post :=
  Sx.callU (As := [v1]) hd hk hr rfl hdd hm hml hb hs hC
theorem Sx.callU2 {i d' mc' ms' : Nat} {C owner : String} {x : MethodName} {y : Mi} {a : Nat} {v1 v2 : Value} (hd : decode μ.2.1 pc = .ok (.invokevirtual i, 3)) (hk : LkU μ.1.cls i C owner x y 2) (hr : rcv Z a C) (hdd : d' + 1 ≤ d) (hm : y.2.2.1 ≤ 80) (hml : stW st ≤ 8) {bc' bs' : Nat} (hb : bc = bc' + mc') (hs : bs = bs' + ms')
    (hC : Cx G l y d' mc' ms' [.ref a, v1, v2] Z R I L (fun v Z' R' I' L' => Sx G l μ d bc' bs' (pc + 3) lv (psh v st) Z' R' I' L' post)) : Sx G l μ d bc bs pc lv (v2 :: v1 :: .ref a :: st) Z R I L post :=
  Sx.callU (As := [v1, v2]) hd hk hr rfl hdd hm hml hb hs hC
theorem Sx.callU3 {i d' mc' ms' : Nat} {C owner : String} {x : MethodName} {y : Mi} {a : Nat} {v1 v2 v3 : Value} (hd : decode μ.2.1 pc = .ok (.invokevirtual i, 3)) (hk : LkU μ.1.cls i C owner x y 3) (hr : rcv Z a C) (hdd : d' + 1 ≤ d) (hm : y.2.2.1 ≤ 80) (hml : stW st ≤ 8) {bc' bs' : Nat} (hb : bc = bc' + mc') (hs : bs = bs' + ms')
    (hC : Cx G l y d' mc' ms' [.ref a, v1, v2, v3] Z R I L (fun v Z' R' I' L' => Sx G l μ d bc' bs' (pc + 3) lv (psh v st) Z' R' I' L' post)) : Sx G l μ d bc bs pc lv (v3 :: v2 :: v1 :: .ref a :: st) Z R I L post :=
  Sx.callU (As := [v1, v2, v3]) hd hk hr rfl hdd hm hml hb hs hC
theorem Sx.callU4 {i d' mc' ms' : Nat} {C owner : String} {x : MethodName} {y : Mi} {a : Nat} {v1 v2 v3 v4 : Value} (hd : decode μ.2.1 pc = .ok (.invokevirtual i, 3)) (hk : LkU μ.1.cls i C owner x y 4) (hr : rcv Z a C) (hdd : d' + 1 ≤ d) (hm : y.2.2.1 ≤ 80) (hml : stW st ≤ 8) {bc' bs' : Nat} (hb : bc = bc' + mc') (hs : bs = bs' + ms')
    (hC : Cx G l y d' mc' ms' [.ref a, v1, v2, v3, v4] Z R I L (fun v Z' R' I' L' => Sx G l μ d bc' bs' (pc + 3) lv (psh v st) Z' R' I' L' post)) : Sx G l μ d bc bs pc lv (v4 :: v3 :: v2 :: v1 :: .ref a :: st) Z R I L post :=
  Sx.callU (As := [v1, v2, v3, v4]) hd hk hr rfl hdd hm hml hb hs hC
theorem Sx.callU5 {i d' mc' ms' : Nat} {C owner : String} {x : MethodName} {y : Mi} {a : Nat} {v1 v2 v3 v4 v5 : Value} (hd : decode μ.2.1 pc = .ok (.invokevirtual i, 3)) (hk : LkU μ.1.cls i C owner x y 5) (hr : rcv Z a C) (hdd : d' + 1 ≤ d) (hm : y.2.2.1 ≤ 80) (hml : stW st ≤ 8) {bc' bs' : Nat} (hb : bc = bc' + mc') (hs : bs = bs' + ms')
    (hC : Cx G l y d' mc' ms' [.ref a, v1, v2, v3, v4, v5] Z R I L (fun v Z' R' I' L' => Sx G l μ d bc' bs' (pc + 3) lv (psh v st) Z' R' I' L' post)) : Sx G l μ d bc bs pc lv (v5 :: v4 :: v3 :: v2 :: v1 :: .ref a :: st) Z R I L post :=
  Sx.callU (As := [v1, v2, v3, v4, v5]) hd hk hr rfl hdd hm hml hb hs hC
theorem Sx.callU6 {i d' mc' ms' : Nat} {C owner : String} {x : MethodName} {y : Mi} {a : Nat} {v1 v2 v3 v4 v5 v6 : Value} (hd : decode μ.2.1 pc = .ok (.invokevirtual i, 3)) (hk : LkU μ.1.cls i C owner x y 6) (hr : rcv Z a C) (hdd : d' + 1 ≤ d) (hm : y.2.2.1 ≤ 80) (hml : stW st ≤ 8) {bc' bs' : Nat} (hb : bc = bc' + mc') (hs : bs = bs' + ms')
    (hC : Cx G l y d' mc' ms' [.ref a, v1, v2, v3, v4, v5, v6] Z R I L (fun v Z' R' I' L' => Sx G l μ d bc' bs' (pc + 3) lv (psh v st) Z' R' I' L' post)) : Sx G l μ d bc bs pc lv (v6 :: v5 :: v4 :: v3 :: v2 :: v1 :: .ref a :: st) Z R I L post :=
  Sx.callU (As := [v1, v2, v3, v4, v5, v6]) hd hk hr rfl hdd hm hml hb hs hC
theorem Sx.callS0 {i d' mc' ms' : Nat} {y : Mi} (hd : decode μ.2.1 pc = .ok (.invokestatic i, 3)) (hk : LkS μ.1.cls i y 0)  (hdd : d' + 1 ≤ d) (hm : y.2.2.1 ≤ 80) (hml : stW st ≤ 8) {bc' bs' : Nat} (hb : bc = bc' + mc') (hs : bs = bs' + ms')
    (hC : Cx G l y d' mc' ms' [] Z R I L (fun v Z' R' I' L' => Sx G l μ d bc' bs' (pc + 3) lv (psh v st) Z' R' I' L' post)) : Sx G l μ d bc bs pc lv (st) Z R I L post :=
  Sx.callS (As := []) hd hk rfl hdd hm hml hb hs hC
theorem Sx.callS1 {i d' mc' ms' : Nat} {y : Mi} {v1 : Value} (hd : decode μ.2.1 pc = .ok (.invokestatic i, 3)) (hk : LkS μ.1.cls i y 1)  (hdd : d' + 1 ≤ d) (hm : y.2.2.1 ≤ 80) (hml : stW st ≤ 8) {bc' bs' : Nat} (hb : bc = bc' + mc') (hs : bs = bs' + ms')
    (hC : Cx G l y d' mc' ms' [v1] Z R I L (fun v Z' R' I' L' => Sx G l μ d bc' bs' (pc + 3) lv (psh v st) Z' R' I' L' post)) : Sx G l μ d bc bs pc lv (v1 :: st) Z R I L post :=
  Sx.callS (As := [v1]) hd hk rfl hdd hm hml hb hs hC
theorem Sx.callS2 {i d' mc' ms' : Nat} {y : Mi} {v1 v2 : Value} (hd : decode μ.2.1 pc = .ok (.invokestatic i, 3)) (hk : LkS μ.1.cls i y 2)  (hdd : d' + 1 ≤ d) (hm : y.2.2.1 ≤ 80) (hml : stW st ≤ 8) {bc' bs' : Nat} (hb : bc = bc' + mc') (hs : bs = bs' + ms')
    (hC : Cx G l y d' mc' ms' [v1, v2] Z R I L (fun v Z' R' I' L' => Sx G l μ d bc' bs' (pc + 3) lv (psh v st) Z' R' I' L' post)) : Sx G l μ d bc bs pc lv (v2 :: v1 :: st) Z R I L post :=
  Sx.callS (As := [v1, v2]) hd hk rfl hdd hm hml hb hs hC
theorem Sx.callS3 {i d' mc' ms' : Nat} {y : Mi} {v1 v2 v3 : Value} (hd : decode μ.2.1 pc = .ok (.invokestatic i, 3)) (hk : LkS μ.1.cls i y 3)  (hdd : d' + 1 ≤ d) (hm : y.2.2.1 ≤ 80) (hml : stW st ≤ 8) {bc' bs' : Nat} (hb : bc = bc' + mc') (hs : bs = bs' + ms')
    (hC : Cx G l y d' mc' ms' [v1, v2, v3] Z R I L (fun v Z' R' I' L' => Sx G l μ d bc' bs' (pc + 3) lv (psh v st) Z' R' I' L' post)) : Sx G l μ d bc bs pc lv (v3 :: v2 :: v1 :: st) Z R I L post :=
  Sx.callS (As := [v1, v2, v3]) hd hk rfl hdd hm hml hb hs hC
theorem Sx.callS4 {i d' mc' ms' : Nat} {y : Mi} {v1 v2 v3 v4 : Value} (hd : decode μ.2.1 pc = .ok (.invokestatic i, 3)) (hk : LkS μ.1.cls i y 4)  (hdd : d' + 1 ≤ d) (hm : y.2.2.1 ≤ 80) (hml : stW st ≤ 8) {bc' bs' : Nat} (hb : bc = bc' + mc') (hs : bs = bs' + ms')
    (hC : Cx G l y d' mc' ms' [v1, v2, v3, v4] Z R I L (fun v Z' R' I' L' => Sx G l μ d bc' bs' (pc + 3) lv (psh v st) Z' R' I' L' post)) : Sx G l μ d bc bs pc lv (v4 :: v3 :: v2 :: v1 :: st) Z R I L post :=
  Sx.callS (As := [v1, v2, v3, v4]) hd hk rfl hdd hm hml hb hs hC
theorem Sx.callS5 {i d' mc' ms' : Nat} {y : Mi} {v1 v2 v3 v4 v5 : Value} (hd : decode μ.2.1 pc = .ok (.invokestatic i, 3)) (hk : LkS μ.1.cls i y 5)  (hdd : d' + 1 ≤ d) (hm : y.2.2.1 ≤ 80) (hml : stW st ≤ 8) {bc' bs' : Nat} (hb : bc = bc' + mc') (hs : bs = bs' + ms')
    (hC : Cx G l y d' mc' ms' [v1, v2, v3, v4, v5] Z R I L (fun v Z' R' I' L' => Sx G l μ d bc' bs' (pc + 3) lv (psh v st) Z' R' I' L' post)) : Sx G l μ d bc bs pc lv (v5 :: v4 :: v3 :: v2 :: v1 :: st) Z R I L post :=
  Sx.callS (As := [v1, v2, v3, v4, v5]) hd hk rfl hdd hm hml hb hs hC
theorem Sx.callS6 {i d' mc' ms' : Nat} {y : Mi} {v1 v2 v3 v4 v5 v6 : Value} (hd : decode μ.2.1 pc = .ok (.invokestatic i, 3)) (hk : LkS μ.1.cls i y 6)  (hdd : d' + 1 ≤ d) (hm : y.2.2.1 ≤ 80) (hml : stW st ≤ 8) {bc' bs' : Nat} (hb : bc = bc' + mc') (hs : bs = bs' + ms')
    (hC : Cx G l y d' mc' ms' [v1, v2, v3, v4, v5, v6] Z R I L (fun v Z' R' I' L' => Sx G l μ d bc' bs' (pc + 3) lv (psh v st) Z' R' I' L' post)) : Sx G l μ d bc bs pc lv (v6 :: v5 :: v4 :: v3 :: v2 :: v1 :: st) Z R I L post :=
  Sx.callS (As := [v1, v2, v3, v4, v5, v6]) hd hk rfl hdd hm hml hb hs hC
theorem Sx.callI0 {i d' mc' ms' : Nat} {y : Mi} {a : Nat} (hd : decode μ.2.1 pc = .ok (.invokespecial i, 3)) (hk : LkI μ.1.cls i y 0)  (hdd : d' + 1 ≤ d) (hm : y.2.2.1 ≤ 80) (hml : stW st ≤ 8) {bc' bs' : Nat} (hb : bc = bc' + mc') (hs : bs = bs' + ms')
    (hC : Cx G l y d' mc' ms' [.ref a] Z R I L (fun v Z' R' I' L' => Sx G l μ d bc' bs' (pc + 3) lv (psh v st) Z' R' I' L' post)) : Sx G l μ d bc bs pc lv (.ref a :: st) Z R I L post :=
  Sx.callI (As := []) hd hk rfl hdd hm hml hb hs hC
theorem Sx.callI1 {i d' mc' ms' : Nat} {y : Mi} {a : Nat} {v1 : Value} (hd : decode μ.2.1 pc = .ok (.invokespecial i, 3)) (hk : LkI μ.1.cls i y 1)  (hdd : d' + 1 ≤ d) (hm : y.2.2.1 ≤ 80) (hml : stW st ≤ 8) {bc' bs' : Nat} (hb : bc = bc' + mc') (hs : bs = bs' + ms')
    (hC : Cx G l y d' mc' ms' [.ref a, v1] Z R I L (fun v Z' R' I' L' => Sx G l μ d bc' bs' (pc + 3) lv (psh v st) Z' R' I' L' post)) : Sx G l μ d bc bs pc lv (v1 :: .ref a :: st) Z R I L post :=
  Sx.callI (As := [v1]) hd hk rfl hdd hm hml hb hs hC
theorem Sx.callI2 {i d' mc' ms' : Nat} {y : Mi} {a : Nat} {v1 v2 : Value} (hd : decode μ.2.1 pc = .ok (.invokespecial i, 3)) (hk : LkI μ.1.cls i y 2)  (hdd : d' + 1 ≤ d) (hm : y.2.2.1 ≤ 80) (hml : stW st ≤ 8) {bc' bs' : Nat} (hb : bc = bc' + mc') (hs : bs = bs' + ms')
    (hC : Cx G l y d' mc' ms' [.ref a, v1, v2] Z R I L (fun v Z' R' I' L' => Sx G l μ d bc' bs' (pc + 3) lv (psh v st) Z' R' I' L' post)) : Sx G l μ d bc bs pc lv (v2 :: v1 :: .ref a :: st) Z R I L post :=
  Sx.callI (As := [v1, v2]) hd hk rfl hdd hm hml hb hs hC
theorem Sx.callIN0 {i d' mc' ms' : Nat} {y : Mi} {host : String} {a : Nat} (hd : decode μ.2.1 pc = .ok (.invokespecial i, 3)) (hk : LkIN μ.1.cls i y host 0)  (hdd : d' + 1 ≤ d) (hm : y.2.2.1 ≤ 80) (hml : stW st ≤ 8) {bc' bs' : Nat} (hb : bc = bc' + mc') (hs : bs = bs' + ms')
    (hC : Cx G l y d' mc' ms' [.ref a] Z R I L (fun v Z' R' I' L' => Sx G l μ d bc' bs' (pc + 3) lv (psh v st) Z' R' I' L' post)) : Sx G l μ d bc bs pc lv (.ref a :: st) Z R I L post :=
  Sx.callIN (As := []) hd hk rfl hdd hm hml hb hs hC
theorem Sx.callIN1 {i d' mc' ms' : Nat} {y : Mi} {host : String} {a : Nat} {v1 : Value} (hd : decode μ.2.1 pc = .ok (.invokespecial i, 3)) (hk : LkIN μ.1.cls i y host 1)  (hdd : d' + 1 ≤ d) (hm : y.2.2.1 ≤ 80) (hml : stW st ≤ 8) {bc' bs' : Nat} (hb : bc = bc' + mc') (hs : bs = bs' + ms')
    (hC : Cx G l y d' mc' ms' [.ref a, v1] Z R I L (fun v Z' R' I' L' => Sx G l μ d bc' bs' (pc + 3) lv (psh v st) Z' R' I' L' post)) : Sx G l μ d bc bs pc lv (v1 :: .ref a :: st) Z R I L post :=
  Sx.callIN (As := [v1]) hd hk rfl hdd hm hml hb hs hC
theorem Sx.callIN2 {i d' mc' ms' : Nat} {y : Mi} {host : String} {a : Nat} {v1 v2 : Value} (hd : decode μ.2.1 pc = .ok (.invokespecial i, 3)) (hk : LkIN μ.1.cls i y host 2)  (hdd : d' + 1 ≤ d) (hm : y.2.2.1 ≤ 80) (hml : stW st ≤ 8) {bc' bs' : Nat} (hb : bc = bc' + mc') (hs : bs = bs' + ms')
    (hC : Cx G l y d' mc' ms' [.ref a, v1, v2] Z R I L (fun v Z' R' I' L' => Sx G l μ d bc' bs' (pc + 3) lv (psh v st) Z' R' I' L' post)) : Sx G l μ d bc bs pc lv (v2 :: v1 :: .ref a :: st) Z R I L post :=
  Sx.callIN (As := [v1, v2]) hd hk rfl hdd hm hml hb hs hC
theorem Sx.callSN0 {i d' mc' ms' : Nat} {y : Mi} {host : String} (hd : decode μ.2.1 pc = .ok (.invokestatic i, 3)) (hk : LkSN μ.1.cls i y host 0)  (hdd : d' + 1 ≤ d) (hm : y.2.2.1 ≤ 80) (hml : stW st ≤ 8) {bc' bs' : Nat} (hb : bc = bc' + mc') (hs : bs = bs' + ms')
    (hC : Cx G l y d' mc' ms' [] Z R I L (fun v Z' R' I' L' => Sx G l μ d bc' bs' (pc + 3) lv (psh v st) Z' R' I' L' post)) : Sx G l μ d bc bs pc lv (st) Z R I L post :=
  Sx.callSN (As := []) hd hk rfl hdd hm hml hb hs hC
theorem Sx.callSN1 {i d' mc' ms' : Nat} {y : Mi} {host : String} {v1 : Value} (hd : decode μ.2.1 pc = .ok (.invokestatic i, 3)) (hk : LkSN μ.1.cls i y host 1)  (hdd : d' + 1 ≤ d) (hm : y.2.2.1 ≤ 80) (hml : stW st ≤ 8) {bc' bs' : Nat} (hb : bc = bc' + mc') (hs : bs = bs' + ms')
    (hC : Cx G l y d' mc' ms' [v1] Z R I L (fun v Z' R' I' L' => Sx G l μ d bc' bs' (pc + 3) lv (psh v st) Z' R' I' L' post)) : Sx G l μ d bc bs pc lv (v1 :: st) Z R I L post :=
  Sx.callSN (As := [v1]) hd hk rfl hdd hm hml hb hs hC
theorem Sx.callSN2 {i d' mc' ms' : Nat} {y : Mi} {host : String} {v1 v2 : Value} (hd : decode μ.2.1 pc = .ok (.invokestatic i, 3)) (hk : LkSN μ.1.cls i y host 2)  (hdd : d' + 1 ≤ d) (hm : y.2.2.1 ≤ 80) (hml : stW st ≤ 8) {bc' bs' : Nat} (hb : bc = bc' + mc') (hs : bs = bs' + ms')
    (hC : Cx G l y d' mc' ms' [v1, v2] Z R I L (fun v Z' R' I' L' => Sx G l μ d bc' bs' (pc + 3) lv (psh v st) Z' R' I' L' post)) : Sx G l μ d bc bs pc lv (v2 :: v1 :: st) Z R I L post :=
  Sx.callSN (As := [v1, v2]) hd hk rfl hdd hm hml hb hs hC
theorem Sx.callSN3 {i d' mc' ms' : Nat} {y : Mi} {host : String} {v1 v2 v3 : Value} (hd : decode μ.2.1 pc = .ok (.invokestatic i, 3)) (hk : LkSN μ.1.cls i y host 3)  (hdd : d' + 1 ≤ d) (hm : y.2.2.1 ≤ 80) (hml : stW st ≤ 8) {bc' bs' : Nat} (hb : bc = bc' + mc') (hs : bs = bs' + ms')
    (hC : Cx G l y d' mc' ms' [v1, v2, v3] Z R I L (fun v Z' R' I' L' => Sx G l μ d bc' bs' (pc + 3) lv (psh v st) Z' R' I' L' post)) : Sx G l μ d bc bs pc lv (v3 :: v2 :: v1 :: st) Z R I L post :=
  Sx.callSN (As := [v1, v2, v3]) hd hk rfl hdd hm hml hb hs hC
theorem Sx.callSN4 {i d' mc' ms' : Nat} {y : Mi} {host : String} {v1 v2 v3 v4 : Value} (hd : decode μ.2.1 pc = .ok (.invokestatic i, 3)) (hk : LkSN μ.1.cls i y host 4)  (hdd : d' + 1 ≤ d) (hm : y.2.2.1 ≤ 80) (hml : stW st ≤ 8) {bc' bs' : Nat} (hb : bc = bc' + mc') (hs : bs = bs' + ms')
    (hC : Cx G l y d' mc' ms' [v1, v2, v3, v4] Z R I L (fun v Z' R' I' L' => Sx G l μ d bc' bs' (pc + 3) lv (psh v st) Z' R' I' L' post)) : Sx G l μ d bc bs pc lv (v4 :: v3 :: v2 :: v1 :: st) Z R I L post :=
  Sx.callSN (As := [v1, v2, v3, v4]) hd hk rfl hdd hm hml hb hs hC
theorem Sx.callSN5 {i d' mc' ms' : Nat} {y : Mi} {host : String} {v1 v2 v3 v4 v5 : Value} (hd : decode μ.2.1 pc = .ok (.invokestatic i, 3)) (hk : LkSN μ.1.cls i y host 5)  (hdd : d' + 1 ≤ d) (hm : y.2.2.1 ≤ 80) (hml : stW st ≤ 8) {bc' bs' : Nat} (hb : bc = bc' + mc') (hs : bs = bs' + ms')
    (hC : Cx G l y d' mc' ms' [v1, v2, v3, v4, v5] Z R I L (fun v Z' R' I' L' => Sx G l μ d bc' bs' (pc + 3) lv (psh v st) Z' R' I' L' post)) : Sx G l μ d bc bs pc lv (v5 :: v4 :: v3 :: v2 :: v1 :: st) Z R I L post :=
  Sx.callSN (As := [v1, v2, v3, v4, v5]) hd hk rfl hdd hm hml hb hs hC
theorem Sx.callSN6 {i d' mc' ms' : Nat} {y : Mi} {host : String} {v1 v2 v3 v4 v5 v6 : Value} (hd : decode μ.2.1 pc = .ok (.invokestatic i, 3)) (hk : LkSN μ.1.cls i y host 6)  (hdd : d' + 1 ≤ d) (hm : y.2.2.1 ≤ 80) (hml : stW st ≤ 8) {bc' bs' : Nat} (hb : bc = bc' + mc') (hs : bs = bs' + ms')
    (hC : Cx G l y d' mc' ms' [v1, v2, v3, v4, v5, v6] Z R I L (fun v Z' R' I' L' => Sx G l μ d bc' bs' (pc + 3) lv (psh v st) Z' R' I' L' post)) : Sx G l μ d bc bs pc lv (v6 :: v5 :: v4 :: v3 :: v2 :: v1 :: st) Z R I L post :=
  Sx.callSN (As := [v1, v2, v3, v4, v5, v6]) hd hk rfl hdd hm hml hb hs hC
theorem Sx.ist {i : Nat} {x : Int32} (lvf : Int32 → List (Nat × Value)) (hd : decode μ.2.1 pc = .ok (.istore i, 2)) (hn : i < μ.2.2.1) (he : ∀ y, lvs lv i (.int y) = lvf y) (k : ∀ y, y = x → Sx G l μ d bc bs (pc + 2) (lvf y) st Z R I L post) : Sx G l μ d bc bs pc lv (.int x :: st) Z R I L post := Sx.istore hd hn (he x) (k x rfl)
theorem Sx.ist_n {q : Fin 4} {x : Int32} (lvf : Int32 → List (Nat × Value)) (hd : decode μ.2.1 pc = .ok (.istore_n q, 1)) (hn : (q : Nat) < μ.2.2.1) (he : ∀ y, lvs lv (q : Nat) (.int y) = lvf y) (k : ∀ y, y = x → Sx G l μ d bc bs (pc + 1) (lvf y) st Z R I L post) : Sx G l μ d bc bs pc lv (.int x :: st) Z R I L post := Sx.istore_n hd hn (he x) (k x rfl)
theorem Sx.lst {i : Nat} {x : Int64} (lvf : Int64 → List (Nat × Value)) (hd : decode μ.2.1 pc = .ok (.lstore i, 2)) (hn : i + 1 < μ.2.2.1) (he : ∀ y, lvs2 lv i (.long y) = lvf y) (k : ∀ y, y = x → Sx G l μ d bc bs (pc + 2) (lvf y) st Z R I L post) : Sx G l μ d bc bs pc lv (.long x :: st) Z R I L post := Sx.lstore hd hn (he x) (k x rfl)
theorem Sx.lst_n {q : Fin 4} {x : Int64} (lvf : Int64 → List (Nat × Value)) (hd : decode μ.2.1 pc = .ok (.lstore_n q, 1)) (hn : (q : Nat) + 1 < μ.2.2.1) (he : ∀ y, lvs2 lv (q : Nat) (.long y) = lvf y) (k : ∀ y, y = x → Sx G l μ d bc bs (pc + 1) (lvf y) st Z R I L post) : Sx G l μ d bc bs pc lv (.long x :: st) Z R I L post := Sx.lstore_n hd hn (he x) (k x rfl)
theorem Sx.iincN {i : Nat} {n : Int} {x : Int32} (lvf : Int32 → List (Nat × Value)) (hd : decode μ.2.1 pc = .ok (.iinc i n, 3)) (hg : lvg lv i = some (.int x)) (hn : i < μ.2.2.1) (he : ∀ y, lvs lv i (.int y) = lvf y) (k : ∀ y, y = x + Int32.ofInt n → Sx G l μ d bc bs (pc + 3) (lvf y) st Z R I L post) : Sx G l μ d bc bs pc lv st Z R I L post := Sx.iinc hd hg rfl hn (he _) (k _ rfl)
theorem Sx.nmi {x : Int32} (k : ∀ y, y = x → Sx G l μ d bc bs pc lv (.int y :: st) Z R I L post) : Sx G l μ d bc bs pc lv (.int x :: st) Z R I L post := k x rfl
theorem Sx.nml {x : Int64} (k : ∀ y, y = x → Sx G l μ d bc bs pc lv (.long y :: st) Z R I L post) : Sx G l μ d bc bs pc lv (.long x :: st) Z R I L post := k x rfl
/-- two ways that meet: what is on the stack then -/
theorem Sx.join {x y : Int32} (c : Prop) [Decidable c] {K : Prop} (P : Int32 → Prop) (hP : ∀ v, v = (if c then x else y) → P v) (ht : c → P x → K) (hf : ¬ c → P y → K) : K := by
  by_cases h : c
  · exact ht h (hP x (by rw [if_pos h]))
  · exact hf h (hP y (by rw [if_neg h]))
theorem catS {st : List Value} (h : stW st ≤ 8) : ((st.map (tr G)).map fun v => v.category).sum ≤ 8 := by
  rw [List.map_map]
  have : (fun v => v.category) ∘ tr G = fun v : Value => v.category := by funext v; exact tr_cat G v
  rw [this]
  exact h
def imax (x y : Int32) : Int32 := if x < y then y else x
def imin (x y : Int32) : Int32 := if y < x then y else x
def iabs (x : Int32) : Int32 := if 0 ≤ x then x else 0 - x
def lmax (x y : Int64) : Int64 := if y < x then x else y
def lmin (x y : Int64) : Int64 := if y < x then y else x
theorem Sx.mmax {i : Nat} {x y : Int32} (hd : decode μ.2.1 pc = .ok (.invokestatic i, 3)) (hw : Cond.methodLink μ.1.cls i Lib.Math.max.name ∈ TB) (hdd : 1 ≤ d) (hml : stW st ≤ 8) (k : Sx G l μ d bc bs (pc + 3) lv (.int (imax x y) :: st) Z R I L post) : Sx G l μ d bc bs pc lv (.int y :: .int x :: st) Z R I L post := by
  intro p e s m args below meth c0 mc ms E H locs cells slots ls a1 a2 hS hH hl
  have hts := E.2.2.2.2.2.1
  exact va_mmax E.1 E.2.1 (E.2.2.2.1.trans hl.1.symm) E.2.2.2.2.1 (hts _ hw) (hts _ wmimaxS) (hts _ wmI) (hts _ wmimaxC) hdd (by have := catS (G := G) hml; show _ + _ ≤ 100 * d; omega) (by show cells ≤ mc; omega) (by show slots ≤ ms; omega) hd (k p e s m args below meth c0 mc ms E H locs cells slots ls a1 a2 hS hH hl)
theorem Sx.mmin {i : Nat} {x y : Int32} (hd : decode μ.2.1 pc = .ok (.invokestatic i, 3)) (hw : Cond.methodLink μ.1.cls i Lib.Math.min.name ∈ TB) (hdd : 1 ≤ d) (hml : stW st ≤ 8) (k : Sx G l μ d bc bs (pc + 3) lv (.int (imin x y) :: st) Z R I L post) : Sx G l μ d bc bs pc lv (.int y :: .int x :: st) Z R I L post := by
  intro p e s m args below meth c0 mc ms E H locs cells slots ls a1 a2 hS hH hl
  have hts := E.2.2.2.2.2.1
  exact va_mmin E.1 E.2.1 (E.2.2.2.1.trans hl.1.symm) E.2.2.2.2.1 (hts _ hw) (hts _ wmiminS) (hts _ wmI) (hts _ wmiminC) hdd (by have := catS (G := G) hml; show _ + _ ≤ 100 * d; omega) (by show cells ≤ mc; omega) (by show slots ≤ ms; omega) hd (k p e s m args below meth c0 mc ms E H locs cells slots ls a1 a2 hS hH hl)
theorem Sx.mabs {i : Nat} {x : Int32} (hd : decode μ.2.1 pc = .ok (.invokestatic i, 3)) (hw : Cond.methodLink μ.1.cls i Lib.Math.abs.name ∈ TB) (hdd : 1 ≤ d) (hml : stW st ≤ 8) (k : Sx G l μ d bc bs (pc + 3) lv (.int (iabs x) :: st) Z R I L post) : Sx G l μ d bc bs pc lv (.int x :: st) Z R I L post := by
  intro p e s m args below meth c0 mc ms E H locs cells slots ls a1 a2 hS hH hl
  have hts := E.2.2.2.2.2.1
  exact va_mabs E.1 E.2.1 (E.2.2.2.1.trans hl.1.symm) E.2.2.2.2.1 (hts _ hw) (hts _ wmiabsS) (hts _ wmI) (hts _ wmiabsC) hdd (by have := catS (G := G) hml; show _ + _ ≤ 100 * d; omega) (by show cells ≤ mc; omega) (by show slots ≤ ms; omega) hd (k p e s m args below meth c0 mc ms E H locs cells slots ls a1 a2 hS hH hl)
theorem Sx.lmax {i : Nat} {x y : Int64} (hd : decode μ.2.1 pc = .ok (.invokestatic i, 3)) (hw : Cond.methodLink μ.1.cls i Lib.MathLoose.max_long.x ∈ TB) (hdd : 1 ≤ d) (hml : stW st ≤ 8) (k : Sx G l μ d bc bs (pc + 3) lv (.long (lmax x y) :: st) Z R I L post) : Sx G l μ d bc bs pc lv (.long y :: .long x :: st) Z R I L post := by
  intro p e s m args below meth c0 mc ms E H locs cells slots ls a1 a2 hS hH hl
  have hts := E.2.2.2.2.2.1
  exact va_mmax_long E.1 E.2.1 (E.2.2.2.1.trans hl.1.symm) E.2.2.2.2.1 (hts _ hw) (hts _ wmlmaxS) (hts _ wmI) (hts _ wmlmaxC) hdd (by have := catS (G := G) hml; show _ + _ ≤ 100 * d; omega) (by show cells ≤ mc; omega) (by show slots ≤ ms; omega) hd (k p e s m args below meth c0 mc ms E H locs cells slots ls a1 a2 hS hH hl)
theorem Sx.lmin {i : Nat} {x y : Int64} (hd : decode μ.2.1 pc = .ok (.invokestatic i, 3)) (hw : Cond.methodLink μ.1.cls i Lib.MathLoose.min_long.x ∈ TB) (hdd : 1 ≤ d) (hml : stW st ≤ 8) (k : Sx G l μ d bc bs (pc + 3) lv (.long (lmin x y) :: st) Z R I L post) : Sx G l μ d bc bs pc lv (.long y :: .long x :: st) Z R I L post := by
  intro p e s m args below meth c0 mc ms E H locs cells slots ls a1 a2 hS hH hl
  have hts := E.2.2.2.2.2.1
  exact va_mmin_long E.1 E.2.1 (E.2.2.2.1.trans hl.1.symm) E.2.2.2.2.1 (hts _ hw) (hts _ wmlminS) (hts _ wmI) (hts _ wmlminC) hdd (by have := catS (G := G) hml; show _ + _ ≤ 100 * d; omega) (by show cells ≤ mc; omega) (by show slots ≤ ms; omega) hd (k p e s m args below meth c0 mc ms E H locs cells slots ls a1 a2 hS hH hl)
end BASE
theorem rcv_0 {Z : Zt} {a : Nat} (h : ob Z a 0) : rcv Z a "DarkestDay$Calendar" := Or.inl ⟨0, TX0, 2, h, by decide, rfl, rfl⟩
theorem rcv_1 {Z : Zt} {a : Nat} (h : ob Z a 1) : rcv Z a "DarkestDay$Course" := Or.inl ⟨1, TX1, 5, h, by decide, rfl, rfl⟩
theorem rcv_2 {Z : Zt} {a : Nat} (h : ob Z a 2) : rcv Z a "DarkestDay$History" := Or.inl ⟨2, TX2, 3, h, by decide, rfl, rfl⟩
theorem rcv_3 {Z : Zt} {a : Nat} (h : ob Z a 3) : rcv Z a "DarkestDay$Law" := Or.inl ⟨3, TX3, 2, h, by decide, rfl, rfl⟩
theorem rcv_4 {Z : Zt} {a : Nat} (h : ob Z a 4) : rcv Z a "DarkestDay$LawReader" := Or.inl ⟨4, TX4, 9, h, by decide, rfl, rfl⟩
theorem rcv_5 {Z : Zt} {a : Nat} (h : ob Z a 5) : rcv Z a "DarkestDay$Outlook" := Or.inl ⟨5, TX5, 10, h, by decide, rfl, rfl⟩
theorem rcv_6 {Z : Zt} {a : Nat} (h : ob Z a 6) : rcv Z a "DarkestDay$Port" := Or.inl ⟨6, TX6, 1, h, by decide, rfl, rfl⟩
theorem rcv_7 {Z : Zt} {a : Nat} (h : ob Z a 7) : rcv Z a "DarkestDay$Row" := Or.inl ⟨7, TX7, 1, h, by decide, rfl, rfl⟩
theorem rcv_8 {Z : Zt} {a : Nat} (h : ob Z a 8) : rcv Z a "DarkestDay$State" := Or.inl ⟨8, TX8, 1, h, by decide, rfl, rfl⟩
theorem rcv_9 {Z : Zt} {a : Nat} (h : ob Z a 9) : rcv Z a "DarkestDay$Tape" := Or.inl ⟨9, TX9, 4, h, by decide, rfl, rfl⟩
theorem rcv_10 {Z : Zt} {a : Nat} (h : ob Z a 10) : rcv Z a "DarkestDay$Witness" := Or.inl ⟨10, TX10, 8, h, by decide, rfl, rfl⟩
theorem rcv_11 {Z : Zt} {a : Nat} (h : ob Z a 11) : rcv Z a "DarkestDay" := Or.inl ⟨11, TX11, 18, h, by decide, rfl, rfl⟩
theorem rcv_12 {Z : Zt} {a : Nat} (h : ob Z a 12) : rcv Z a "DarkestDayModel" := Or.inl ⟨12, TX12, 52, h, by decide, rfl, rfl⟩
theorem rcv_s {Z : Zt} {k : Nat} (h : k < 6) : rcv Z (20 + k) "java/lang/String" := Or.inr ⟨k, h, rfl, rfl⟩
/-- a row: its object, of class c; its numbers in the cell behind it -/
def rwo (Z : Zt) (R : Rt) (a c n : Nat) : Prop := ob Z a c ∧ R a 0 = some (a + 1) ∧ ar Z (a + 1) 50 n
def rowC (c : Nat) : Prop := c = 0 ∨ c = 3 ∨ c = 6 ∨ c = 7 ∨ c = 8
theorem lkRow {c : Nat} (h : rowC c) : LkF RX7 7 c 0 2 := by
  rcases h with rfl | rfl | rfl | rfl | rfl
  · exact lkf_X7_7_0
  · exact lkf_X7_7_3
  · exact lkf_X7_7_6
  · exact lkf_X7_7_7
  · exact lkf_X7_7_8
