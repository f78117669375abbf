/-! 09.c: the two worlds behind the constructors -/
def nq_kN (ad xa : Nat → Nat) : List Sh := [.inr (.inr (8, [fun _ => .ref (ad 1), fun _ => .ref (ad 2), fun _ => .ref (ad 39), Value.int, fun _ => .ref (ad 76), fun _ => .ref (ad 78), fun _ => .ref (ad 80), fun _ => .ref (ad 82), fun _ => .ref (ad 83), fun _ => .ref (ad 84), fun _ => .ref (ad 86)])),
  .inl (0, 6),
  .inr (.inr (7, [fun _ => .ref (ad 3), fun _ => .ref (ad 6), fun _ => .ref (ad 16), fun _ => .ref (ad 17), fun _ => .ref (ad 18), fun _ => .ref (ad 19), fun _ => .ref (ad 20), fun _ => .ref (ad 21), fun _ => .ref (ad 22), Value.int, Value.int, Value.int, Value.int, Value.int, Value.int, Value.int, Value.int])),
  .inr (.inr (2, [Value.int, fun _ => .ref (ad 4), fun _ => .ref (ad 5)])),
  .inl (0, 36),
  .inl (0, 36),
  .inr (.inr (0, [Value.int, fun _ => .ref (ad 7), fun _ => .ref (ad 8), fun _ => .ref (ad 9), fun _ => .ref (ad 10), fun _ => .ref (ad 11), fun _ => .ref (ad 12), fun _ => .ref (ad 13), fun _ => .ref (ad 14), Value.int, fun _ => .ref (ad 15)])),
  .inl (0, 80),
  .inl (0, 80),
  .inl (0, 80),
  .inl (0, 80),
  .inl (0, 80),
  .inl (0, 80),
  .inl (0, 80),
  .inl (0, 80),
  .inl (0, 80),
  .inr (.inl (2, [some (ad 23), some (ad 25), some (ad 27), some (ad 29), some (ad 31), some (ad 33), some (ad 35), some (ad 37)])),
  .inl (0, 50),
  .inl (0, 6),
  .inl (0, 32),
  .inl (0, 8),
  .inl (0, 8),
  .inl (0, 20),
  .inr (.inr (5, [fun _ => .ref (ad 24), Value.int])),
  .inl (0, 50),
  .inr (.inr (5, [fun _ => .ref (ad 26), Value.int])),
  .inl (0, 50),
  .inr (.inr (5, [fun _ => .ref (ad 28), Value.int])),
  .inl (0, 50),
  .inr (.inr (5, [fun _ => .ref (ad 30), Value.int])),
  .inl (0, 50),
  .inr (.inr (5, [fun _ => .ref (ad 32), Value.int])),
  .inl (0, 50),
  .inr (.inr (5, [fun _ => .ref (ad 34), Value.int])),
  .inl (0, 50),
  .inr (.inr (5, [fun _ => .ref (ad 36), Value.int])),
  .inl (0, 50),
  .inr (.inr (5, [fun _ => .ref (ad 38), Value.int])),
  .inl (0, 50),
  .inr (.inr (7, [fun _ => .ref (ad 40), fun _ => .ref (ad 43), fun _ => .ref (ad 53), fun _ => .ref (ad 54), fun _ => .ref (ad 55), fun _ => .ref (ad 56), fun _ => .ref (ad 57), fun _ => .ref (ad 58), fun _ => .ref (ad 59), Value.int, Value.int, Value.int, Value.int, Value.int, Value.int, Value.int, Value.int])),
  .inr (.inr (2, [Value.int, fun _ => .ref (ad 41), fun _ => .ref (ad 42)])),
  .inl (0, 36),
  .inl (0, 36),
  .inr (.inr (0, [Value.int, fun _ => .ref (ad 44), fun _ => .ref (ad 45), fun _ => .ref (ad 46), fun _ => .ref (ad 47), fun _ => .ref (ad 48), fun _ => .ref (ad 49), fun _ => .ref (ad 50), fun _ => .ref (ad 51), Value.int, fun _ => .ref (ad 52)])),
  .inl (0, 80),
  .inl (0, 80),
  .inl (0, 80),
  .inl (0, 80),
  .inl (0, 80),
  .inl (0, 80),
  .inl (0, 80),
  .inl (0, 80),
  .inl (0, 80),
  .inr (.inl (2, [some (ad 60), some (ad 62), some (ad 64), some (ad 66), some (ad 68), some (ad 70), some (ad 72), some (ad 74)])),
  .inl (0, 50),
  .inl (0, 6),
  .inl (0, 32),
  .inl (0, 8),
  .inl (0, 8),
  .inl (0, 20),
  .inr (.inr (5, [fun _ => .ref (ad 61), Value.int])),
  .inl (0, 50),
  .inr (.inr (5, [fun _ => .ref (ad 63), Value.int])),
  .inl (0, 50),
  .inr (.inr (5, [fun _ => .ref (ad 65), Value.int])),
  .inl (0, 50),
  .inr (.inr (5, [fun _ => .ref (ad 67), Value.int])),
  .inl (0, 50),
  .inr (.inr (5, [fun _ => .ref (ad 69), Value.int])),
  .inl (0, 50),
  .inr (.inr (5, [fun _ => .ref (ad 71), Value.int])),
  .inl (0, 50),
  .inr (.inr (5, [fun _ => .ref (ad 73), Value.int])),
  .inl (0, 50),
  .inr (.inr (5, [fun _ => .ref (ad 75), Value.int])),
  .inl (0, 50),
  .inr (.inr (4, [fun _ => .ref (ad 6), fun _ => .ref (ad 77), Value.int, Value.int, Value.int, Value.int, Value.int, Value.int])),
  .inl (0, 6),
  .inr (.inr (4, [fun _ => .ref (ad 6), fun _ => .ref (ad 79), Value.int, Value.int, Value.int, Value.int, Value.int, Value.int])),
  .inl (0, 6),
  .inr (.inr (1, [fun _ => .ref (ad 81), Value.int, fun t => .ref (ad (if t = 0 then 81 else 17)), Value.int, Value.int, fun t => .ref (xa t.toNatClampNeg)])),
  .inl (0, 50),
  .inl (0, 5),
  .inl (0, 50),
  .inr (.inr (6, [fun _ => .ref (ad 85), Value.int, Value.int, Value.int, Value.int])),
  .inl (0, 40),
  .inr (.inl (3, [some (ad 87), some (ad 89), some (ad 91), some (ad 93)])),
  .inr (.inr (3, [Value.int, Value.int, fun _ => .ref (ad 88)])),
  .inl (0, 40),
  .inr (.inr (3, [Value.int, Value.int, fun _ => .ref (ad 90)])),
  .inl (0, 40),
  .inr (.inr (3, [Value.int, Value.int, fun _ => .ref (ad 92)])),
  .inl (0, 40),
  .inr (.inr (3, [Value.int, Value.int, fun _ => .ref (ad 94)])),
  .inl (0, 40)]
def nq_kM (ad : Nat → Nat) : List Sh := kfX9_init ad ad
set_option maxRecDepth 100000 in
set_option maxHeartbeats 4000000 in
theorem nq_N0 (E : Ev) (L : List Nat) : nq_atNine (nq_E1 E L) (nq_kN (nq_adL L) (nq_xa E)) := ⟨rfl, rfl, ⟨rfl, ⟨rfl, rfl, rfl⟩, ⟨rfl, rfl, rfl, rfl, rfl, rfl, rfl, rfl, rfl, rfl⟩, rfl, (fun i hi => match i, hi with
    | 0, _ => ⟨rfl, rfl⟩
    | 1, _ => ⟨rfl, rfl⟩
    | 2, _ => ⟨rfl, rfl⟩
    | 3, _ => ⟨rfl, rfl⟩
    | 4, _ => ⟨rfl, rfl⟩
    | 5, _ => ⟨rfl, rfl⟩
    | 6, _ => ⟨rfl, rfl⟩
    | 7, _ => ⟨rfl, rfl⟩), rfl, rfl, rfl, rfl, rfl, rfl⟩, ⟨rfl, ⟨rfl, rfl, rfl⟩, ⟨rfl, rfl, rfl, rfl, rfl, rfl, rfl, rfl, rfl, rfl⟩, rfl, (fun i hi => match i, hi with
    | 0, _ => ⟨rfl, rfl⟩
    | 1, _ => ⟨rfl, rfl⟩
    | 2, _ => ⟨rfl, rfl⟩
    | 3, _ => ⟨rfl, rfl⟩
    | 4, _ => ⟨rfl, rfl⟩
    | 5, _ => ⟨rfl, rfl⟩
    | 6, _ => ⟨rfl, rfl⟩
    | 7, _ => ⟨rfl, rfl⟩), rfl, rfl, rfl, rfl, rfl, rfl⟩, ⟨rfl, ⟨rfl, rfl, rfl, rfl, rfl, rfl, rfl, rfl, rfl, rfl⟩, rfl⟩, ⟨rfl, ⟨rfl, rfl, rfl, rfl, rfl, rfl, rfl, rfl, rfl, rfl⟩, rfl⟩, ⟨rfl, rfl, rfl⟩, rfl, rfl, ⟨rfl, rfl⟩, rfl, (fun i hi => match i, hi with
    | 0, _ => ⟨rfl, rfl⟩
    | 1, _ => ⟨rfl, rfl⟩
    | 2, _ => ⟨rfl, rfl⟩
    | 3, _ => ⟨rfl, rfl⟩)⟩
theorem nq_M0 (E : Ev) (L : List Nat) : nq_atModel (nq_E1 E L) (nq_kM (nq_adL L)) := ⟨rfl, rfl, rfl, rfl, rfl, rfl, rfl, rfl, rfl, rfl, rfl, rfl, rfl, rfl, rfl⟩
