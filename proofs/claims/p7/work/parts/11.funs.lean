def fX0_formOf (p0 : Int32) : Int32 :=
  if (p0 &&& (528482304 : Int32)) = (285212672 : Int32) then (((0 : Int32) / (2 : Int32)) + (1 : Int32)) else
  if (p0 &&& (522190848 : Int32)) = (184549376 : Int32) then (((2 : Int32) / (2 : Int32)) + (1 : Int32)) else
  if (p0 &&& (520093696 : Int32)) = (167772160 : Int32) then (((4 : Int32) / (2 : Int32)) + (1 : Int32)) else
  if (p0 &&& (528482304 : Int32)) = (310378496 : Int32) then (((6 : Int32) / (2 : Int32)) + (1 : Int32)) else
  if (p0 &&& (-1627389952 : Int32)) = (-1879048192 : Int32) then (((8 : Int32) / (2 : Int32)) + (1 : Int32)) else
  if (p0 &&& (2145386496 : Int32)) = (452984832 : Int32) then (((10 : Int32) / (2 : Int32)) + (1 : Int32)) else
  if (p0 &&& (2145386496 : Int32)) = (448790528 : Int32) then (((12 : Int32) / (2 : Int32)) + (1 : Int32)) else
  if (p0 &&& (2145388544 : Int32)) = (444596224 : Int32) then (((14 : Int32) / (2 : Int32)) + (1 : Int32)) else
  if (p0 &&& (1056964608 : Int32)) = (956301312 : Int32) then (((16 : Int32) / (2 : Int32)) + (1 : Int32)) else
  if (p0 &&& (1059122176 : Int32)) = (941647872 : Int32) then (((18 : Int32) / (2 : Int32)) + (1 : Int32)) else
  if (p0 &&& (-33554432 : Int32)) = (-1476395008 : Int32) then (((20 : Int32) / (2 : Int32)) + (1 : Int32)) else
  if (p0 &&& (-67108864 : Int32)) = (335544320 : Int32) then (((22 : Int32) / (2 : Int32)) + (1 : Int32)) else
  if (p0 &&& (-67108864 : Int32)) = (-1811939328 : Int32) then (((24 : Int32) / (2 : Int32)) + (1 : Int32)) else
  if (p0 &&& (-16777200 : Int32)) = (1409286144 : Int32) then (((26 : Int32) / (2 : Int32)) + (1 : Int32)) else
  if (p0 &&& (2113929216 : Int32)) = (872415232 : Int32) then (((28 : Int32) / (2 : Int32)) + (1 : Int32)) else
  if (p0 &&& (2113929216 : Int32)) = (905969664 : Int32) then (((30 : Int32) / (2 : Int32)) + (1 : Int32)) else
  if (p0 &&& (-993 : Int32)) = (-702611456 : Int32) then (((32 : Int32) / (2 : Int32)) + (1 : Int32)) else
  if (p0 &&& (-993 : Int32)) = (-700514304 : Int32) then (((34 : Int32) / (2 : Int32)) + (1 : Int32)) else
  if (p0 &&& (-993 : Int32)) = (-698417152 : Int32) then (((36 : Int32) / (2 : Int32)) + (1 : Int32)) else
  if (p0 &&& (-2097121 : Int32)) = (-738197503 : Int32) then (((38 : Int32) / (2 : Int32)) + (1 : Int32)) else
  if (p0 &&& (-1 : Int32)) = (-721215457 : Int32) then (((40 : Int32) / (2 : Int32)) + (1 : Int32)) else
  (0 : Int32)
def fX0_lowBits (p0 : Int32) : Int32 :=
  (((1 : Int32) <<< (p0 &&& 31)) - (1 : Int32))
def fX0_bits (p0 : Int32) (p1 : Int32) (p2 : Int32) : Int32 :=
  ((((p0).toUInt32 >>> ((p1).toUInt32 &&& Int32.toUInt32 31)).toInt32) &&& (fX0_lowBits p2))
def fX0_isLong (p0 : Int32) : Int32 :=
  if 0 ≤ p0 then (0 : Int32) else
  (1 : Int32)
theorem zX0_isLong (p0 : Int32) : fX0_isLong p0 = 0 ∨ fX0_isLong p0 = 1 := by
  unfold fX0_isLong
  repeat' split
  all_goals first | exact Or.inl rfl | exact Or.inr rfl
def fX0_isMovedWithin (p0 : Int32) : Int32 :=
  if (fX0_isLong p0) = 0 then (if (32 : Int32) ≤ (fX0_bits p0 (10 : Int32) (6 : Int32)) then (0 : Int32) else
    (1 : Int32)) else
  (1 : Int32)
theorem zX0_isMovedWithin (p0 : Int32) : fX0_isMovedWithin p0 = 0 ∨ fX0_isMovedWithin p0 = 1 := by
  unfold fX0_isMovedWithin
  repeat' split
  all_goals first | exact Or.inl rfl | exact Or.inr rfl
def fX0_isTwo (p0 : Int32) : Int32 :=
  if p0 = (2 : Int32) then (1 : Int32) else
  if p0 = (3 : Int32) then (1 : Int32) else
  if p0 < (8 : Int32) then (0 : Int32) else
  if (10 : Int32) < p0 then (0 : Int32) else
  (1 : Int32)
theorem zX0_isTwo (p0 : Int32) : fX0_isTwo p0 = 0 ∨ fX0_isTwo p0 = 1 := by
  unfold fX0_isTwo
  repeat' split
  all_goals first | exact Or.inl rfl | exact Or.inr rfl
def fX0_isCondition (p0 : Int32) : Int32 :=
  if (13 : Int32) < p0 then (0 : Int32) else
  (1 : Int32)
theorem zX0_isCondition (p0 : Int32) : fX0_isCondition p0 = 0 ∨ fX0_isCondition p0 = 1 := by
  unfold fX0_isCondition
  repeat' split
  all_goals first | exact Or.inl rfl | exact Or.inr rfl
def fX0_isLoad (p0 : Int32) (p1 : Int32) : Int32 :=
  if p1 = (2 : Int32) then (if p0 = (2 : Int32) then (1 : Int32) else
    (0 : Int32)) else
  if p1 = (3 : Int32) then (0 : Int32) else
  if p0 = (1 : Int32) then (0 : Int32) else
  (1 : Int32)
theorem zX0_isLoad (p0 : Int32) (p1 : Int32) : fX0_isLoad p0 p1 = 0 ∨ fX0_isLoad p0 p1 = 1 := by
  unfold fX0_isLoad
  repeat' split
  all_goals first | exact Or.inl rfl | exact Or.inr rfl
def fX0_isPair (p0 : Int32) : Int32 :=
  if (fX0_bits p0 (22 : Int32) (1 : Int32)) = (1 : Int32) then (if (fX0_bits p0 (23 : Int32) (2 : Int32)) = 0 then (0 : Int32) else
    if (fX0_bits p0 (0 : Int32) (5 : Int32)) = (fX0_bits p0 (10 : Int32) (5 : Int32)) then (0 : Int32) else
    if (fX0_bits p0 (23 : Int32) (2 : Int32)) = (2 : Int32) then (1 : Int32) else
    if (fX0_bits p0 (5 : Int32) (5 : Int32)) = (31 : Int32) then (1 : Int32) else
    if (fX0_bits p0 (5 : Int32) (5 : Int32)) = (fX0_bits p0 (0 : Int32) (5 : Int32)) then (0 : Int32) else
    if (fX0_bits p0 (5 : Int32) (5 : Int32)) = (fX0_bits p0 (10 : Int32) (5 : Int32)) then (0 : Int32) else
    (1 : Int32)) else
  if (fX0_bits p0 (23 : Int32) (2 : Int32)) = 0 then (0 : Int32) else
  if (fX0_bits p0 (23 : Int32) (2 : Int32)) = (2 : Int32) then (1 : Int32) else
  if (fX0_bits p0 (5 : Int32) (5 : Int32)) = (31 : Int32) then (1 : Int32) else
  if (fX0_bits p0 (5 : Int32) (5 : Int32)) = (fX0_bits p0 (0 : Int32) (5 : Int32)) then (0 : Int32) else
  if (fX0_bits p0 (5 : Int32) (5 : Int32)) = (fX0_bits p0 (10 : Int32) (5 : Int32)) then (0 : Int32) else
  (1 : Int32)
theorem zX0_isPair (p0 : Int32) : fX0_isPair p0 = 0 ∨ fX0_isPair p0 = 1 := by
  unfold fX0_isPair
  repeat' split
  all_goals first | exact Or.inl rfl | exact Or.inr rfl
def fX0_isAllowed (p0 : Int32) (p1 : Int32) : Int32 :=
  if p0 = (2 : Int32) then (if (fX0_bits p1 (22 : Int32) (2 : Int32)) = (3 : Int32) then (0 : Int32) else
    if (fX0_isMovedWithin p1) = 0 then (0 : Int32) else
    (1 : Int32)) else
  if p0 = (3 : Int32) then (fX0_isMovedWithin p1) else
  if p0 = (4 : Int32) then (if (fX0_bits p1 (29 : Int32) (2 : Int32)) = (1 : Int32) then (0 : Int32) else
    if (fX0_isLong p1) = 0 then (if (2 : Int32) ≤ (fX0_bits p1 (21 : Int32) (2 : Int32)) then (0 : Int32) else
      (1 : Int32)) else
    (1 : Int32)) else
  if p0 = (7 : Int32) then (fX0_isTwo (fX0_bits p1 (10 : Int32) (6 : Int32))) else
  if p0 = (8 : Int32) then (fX0_isCondition (fX0_bits p1 (12 : Int32) (4 : Int32))) else
  if p0 = (9 : Int32) then (fX0_isLoad (fX0_bits p1 (30 : Int32) (2 : Int32)) (fX0_bits p1 (22 : Int32) (2 : Int32))) else
  if p0 = (10 : Int32) then (fX0_isLoad (fX0_bits p1 (30 : Int32) (2 : Int32)) (fX0_bits p1 (22 : Int32) (2 : Int32))) else
  if p0 = (11 : Int32) then (fX0_isPair p1) else
  if p0 = (14 : Int32) then (fX0_isCondition (fX0_bits p1 (0 : Int32) (4 : Int32))) else
  (1 : Int32)
theorem zX0_isAllowed (p0 : Int32) (p1 : Int32) : fX0_isAllowed p0 p1 = 0 ∨ fX0_isAllowed p0 p1 = 1 := by
  unfold fX0_isAllowed
  repeat' split
  all_goals first | with_reducible exact zX0_isCondition .. | with_reducible exact zX0_isLoad .. | with_reducible exact zX0_isMovedWithin .. | with_reducible exact zX0_isPair .. | with_reducible exact zX0_isTwo .. | exact Or.inl rfl | exact Or.inr rfl
def fX0_kind (p0 : Int32) : Int32 :=
  if (fX0_isAllowed (fX0_formOf p0) p0) = 0 then (0 : Int32) else
  (fX0_formOf p0)
def fX0_isGoing (p0 : Int32) : Int32 :=
  if p0 < (12 : Int32) then (0 : Int32) else
  if (16 : Int32) < p0 then (0 : Int32) else
  (1 : Int32)
theorem zX0_isGoing (p0 : Int32) : fX0_isGoing p0 = 0 ∨ fX0_isGoing p0 = 1 := by
  unfold fX0_isGoing
  repeat' split
  all_goals first | exact Or.inl rfl | exact Or.inr rfl
def fX0_distancePlace (p0 : Int32) : Int32 :=
  if p0 = (12 : Int32) then (0 : Int32) else
  if p0 = (13 : Int32) then (0 : Int32) else
  (5 : Int32)
def fX0_distanceWidth (p0 : Int32) : Int32 :=
  if p0 = (12 : Int32) then (26 : Int32) else
  if p0 = (13 : Int32) then (26 : Int32) else
  if p0 = (16 : Int32) then (14 : Int32) else
  (19 : Int32)
def fX0_signedBits (p0 : Int32) (p1 : Int32) (p2 : Int32) : Int32 :=
  ((p0 <<< ((((32 : Int32) - p1) - p2) &&& 31)) >>> (((32 : Int32) - p2) &&& 31))
def fX0_by (p0 : Int32) : Int32 :=
  if (fX0_isGoing (fX0_kind p0)) = 0 then (1 : Int32) else
  ((fX0_signedBits p0 (fX0_distancePlace (fX0_kind p0)) (fX0_distanceWidth (fX0_kind p0))) * (4 : Int32))
def fX0_isWithinReach (p0 : Int32) (p1 : Int64) : Int32 :=
  if (fX0_isGoing p0) = 0 then (0 : Int32) else
  if (lg_cmp (p1 &&& (3 : Int64)) (0 : Int64)) = 0 then (if (lg_cmp p1 (-((1 : Int64) <<< ((((fX0_distanceWidth p0) + (1 : Int32))).toInt64 &&& 63)))) < 0 then (0 : Int32) else
    if 0 ≤ (lg_cmp p1 ((1 : Int64) <<< ((((fX0_distanceWidth p0) + (1 : Int32))).toInt64 &&& 63))) then (0 : Int32) else
    (1 : Int32)) else
  (0 : Int32)
theorem zX0_isWithinReach (p0 : Int32) (p1 : Int64) : fX0_isWithinReach p0 p1 = 0 ∨ fX0_isWithinReach p0 p1 = 1 := by
  unfold fX0_isWithinReach
  repeat' split
  all_goals first | exact Or.inl rfl | exact Or.inr rfl
def fX0_going (p0 : Int32) (p1 : Int32) : Int32 :=
  if (fX0_isWithinReach (fX0_kind p0) ((p1).toInt64)) = 0 then p0 else
  ((p0 &&& (((fX0_lowBits (fX0_distanceWidth (fX0_kind p0))) <<< ((fX0_distancePlace (fX0_kind p0)) &&& 31)) ^^^ (-1 : Int32))) ||| (((p1 >>> ((2 : Int32) &&& 31)) <<< ((fX0_distancePlace (fX0_kind p0)) &&& 31)) &&& ((fX0_lowBits (fX0_distanceWidth (fX0_kind p0))) <<< ((fX0_distancePlace (fX0_kind p0)) &&& 31))))
def fX0_reaches (p0 : Int32) (p1 : Int64) : Int32 :=
  (fX0_isWithinReach (fX0_kind p0) p1)
theorem zX0_reaches (p0 : Int32) (p1 : Int64) : fX0_reaches p0 p1 = 0 ∨ fX0_reaches p0 p1 = 1 := by
  unfold fX0_reaches
  repeat' split
  all_goals first | with_reducible exact zX0_isWithinReach .. | exact Or.inl rfl | exact Or.inr rfl
def fX0_turned (p0 : Int32) : Int32 :=
  if (fX0_kind p0) = (14 : Int32) then (p0 ^^^ (1 : Int32)) else
  if (fX0_kind p0) = (15 : Int32) then (p0 ^^^ (16777216 : Int32)) else
  if (fX0_kind p0) = (16 : Int32) then (p0 ^^^ (16777216 : Int32)) else
  p0
def fX0_page (p0 : Int32) (p1 : Int64) : Int64 :=
  if (fX0_kind p0) = (5 : Int32) then (((p1 >>> (((12 : Int32)).toInt64 &&& 63)) + (((((fX0_signedBits p0 (5 : Int32) (19 : Int32))).toInt64) * (4 : Int64)) + (((fX0_bits p0 (29 : Int32) (2 : Int32))).toInt64))) <<< (((12 : Int32)).toInt64 &&& 63)) else
  (-1 : Int64)
def fX0_paging (p0 : Int32) (p1 : Int64) (p2 : Int64) : Int32 :=
  if (fX0_kind p0) = (5 : Int32) then (if 0 ≤ (lg_cmp ((p2 >>> (((12 : Int32)).toInt64 &&& 63)) - (p1 >>> (((12 : Int32)).toInt64 &&& 63))) (1048576 : Int64)) then p0 else
    if 0 ≤ (lg_cmp ((p2 >>> (((12 : Int32)).toInt64 &&& 63)) - (p1 >>> (((12 : Int32)).toInt64 &&& 63))) (-1048576 : Int64)) then (((p0 &&& (-1627389921 : Int32)) ||| ((fX0_bits ((((p2 >>> (((12 : Int32)).toInt64 &&& 63)) - (p1 >>> (((12 : Int32)).toInt64 &&& 63)))).toInt32) (2 : Int32) (19 : Int32)) <<< ((5 : Int32) &&& 31))) ||| ((fX0_bits ((((p2 >>> (((12 : Int32)).toInt64 &&& 63)) - (p1 >>> (((12 : Int32)).toInt64 &&& 63)))).toInt32) (0 : Int32) (2 : Int32)) <<< ((29 : Int32) &&& 31))) else
    p0) else
  p0
def fX0_goesOn (p0 : Int32) : Int32 :=
  if (fX0_kind p0) = 0 then (0 : Int32) else
  if (fX0_kind p0) = (12 : Int32) then (0 : Int32) else
  if (fX0_kind p0) = (17 : Int32) then (0 : Int32) else
  if (fX0_kind p0) = (19 : Int32) then (0 : Int32) else
  (1 : Int32)
theorem zX0_goesOn (p0 : Int32) : fX0_goesOn p0 = 0 ∨ fX0_goesOn p0 = 1 := by
  unfold fX0_goesOn
  repeat' split
  all_goals first | exact Or.inl rfl | exact Or.inr rfl
def fX0_hasD (p0 : Int32) : Int32 :=
  if p0 < (1 : Int32) then (if p0 = (15 : Int32) then (1 : Int32) else
    if p0 = (16 : Int32) then (1 : Int32) else
    (0 : Int32)) else
  if p0 ≤ (11 : Int32) then (1 : Int32) else
  if p0 = (15 : Int32) then (1 : Int32) else
  if p0 = (16 : Int32) then (1 : Int32) else
  (0 : Int32)
theorem zX0_hasD (p0 : Int32) : fX0_hasD p0 = 0 ∨ fX0_hasD p0 = 1 := by
  unfold fX0_hasD
  repeat' split
  all_goals first | exact Or.inl rfl | exact Or.inr rfl
def fX0_hasN (p0 : Int32) : Int32 :=
  if p0 < (1 : Int32) then (if p0 < (6 : Int32) then (if p0 < (17 : Int32) then (0 : Int32) else
      if (19 : Int32) < p0 then (0 : Int32) else
      (1 : Int32)) else
    if p0 ≤ (11 : Int32) then (1 : Int32) else
    if p0 < (17 : Int32) then (0 : Int32) else
    if (19 : Int32) < p0 then (0 : Int32) else
    (1 : Int32)) else
  if p0 ≤ (3 : Int32) then (1 : Int32) else
  if p0 < (6 : Int32) then (if p0 < (17 : Int32) then (0 : Int32) else
    if (19 : Int32) < p0 then (0 : Int32) else
    (1 : Int32)) else
  if p0 ≤ (11 : Int32) then (1 : Int32) else
  if p0 < (17 : Int32) then (0 : Int32) else
  if (19 : Int32) < p0 then (0 : Int32) else
  (1 : Int32)
theorem zX0_hasN (p0 : Int32) : fX0_hasN p0 = 0 ∨ fX0_hasN p0 = 1 := by
  unfold fX0_hasN
  repeat' split
  all_goals first | exact Or.inl rfl | exact Or.inr rfl
def fX0_hasM (p0 : Int32) : Int32 :=
  if p0 = (2 : Int32) then (1 : Int32) else
  if p0 = (3 : Int32) then (1 : Int32) else
  if p0 < (6 : Int32) then (if p0 = (10 : Int32) then (1 : Int32) else
    (0 : Int32)) else
  if p0 ≤ (8 : Int32) then (1 : Int32) else
  if p0 = (10 : Int32) then (1 : Int32) else
  (0 : Int32)
theorem zX0_hasM (p0 : Int32) : fX0_hasM p0 = 0 ∨ fX0_hasM p0 = 1 := by
  unfold fX0_hasM
  repeat' split
  all_goals first | exact Or.inl rfl | exact Or.inr rfl
def fX0_hasA (p0 : Int32) : Int32 :=
  if p0 = (6 : Int32) then (1 : Int32) else
  if p0 = (11 : Int32) then (1 : Int32) else
  (0 : Int32)
theorem zX0_hasA (p0 : Int32) : fX0_hasA p0 = 0 ∨ fX0_hasA p0 = 1 := by
  unfold fX0_hasA
  repeat' split
  all_goals first | exact Or.inl rfl | exact Or.inr rfl
def fX0_register (p0 : Int32) (p1 : Int32) : Int32 :=
  if p1 = (0 : Int32) then (if (fX0_hasD (fX0_kind p0)) = 0 then (-1 : Int32) else
    (fX0_bits p0 (0 : Int32) (5 : Int32))) else
  if p1 = (1 : Int32) then (if (fX0_hasN (fX0_kind p0)) = 0 then (-1 : Int32) else
    (fX0_bits p0 (5 : Int32) (5 : Int32))) else
  if p1 = (2 : Int32) then (if (fX0_hasM (fX0_kind p0)) = 0 then (-1 : Int32) else
    (fX0_bits p0 (16 : Int32) (5 : Int32))) else
  if p1 = (3 : Int32) then (if (fX0_hasA (fX0_kind p0)) = 0 then (-1 : Int32) else
    (fX0_bits p0 (10 : Int32) (5 : Int32))) else
  (-1 : Int32)
def fX1_bits (p0 : Int32) (p1 : Int32) (p2 : Int32) : Int32 :=
  ((((p0 <<< (((31 : Int32) - p2) &&& 31))).toUInt32 >>> (((((31 : Int32) - p2) + p1)).toUInt32 &&& Int32.toUInt32 31)).toInt32)
def fX1_signed (p0 : Int32) (p1 : Int32) (p2 : Int32) : Int32 :=
  ((p0 <<< (((31 : Int32) - p2) &&& 31)) >>> ((((31 : Int32) - p2) + p1) &&& 31))
def fX1_isPair (p0 : Int32) : Int32 :=
  if (fX1_bits p0 (23 : Int32) (24 : Int32)) = (2 : Int32) then (if (fX1_bits p0 (23 : Int32) (24 : Int32)) = 0 then (0 : Int32) else
    if (fX1_bits p0 (22 : Int32) (22 : Int32)) = 0 then (1 : Int32) else
    if (fX1_bits p0 (0 : Int32) (4 : Int32)) = (fX1_bits p0 (10 : Int32) (14 : Int32)) then (0 : Int32) else
    (1 : Int32)) else
  if (fX1_bits p0 (5 : Int32) (9 : Int32)) = (31 : Int32) then (if (fX1_bits p0 (23 : Int32) (24 : Int32)) = 0 then (0 : Int32) else
    if (fX1_bits p0 (22 : Int32) (22 : Int32)) = 0 then (1 : Int32) else
    if (fX1_bits p0 (0 : Int32) (4 : Int32)) = (fX1_bits p0 (10 : Int32) (14 : Int32)) then (0 : Int32) else
    (1 : Int32)) else
  if (fX1_bits p0 (23 : Int32) (24 : Int32)) = 0 then (0 : Int32) else
  if (fX1_bits p0 (5 : Int32) (9 : Int32)) = (fX1_bits p0 (0 : Int32) (4 : Int32)) then (0 : Int32) else
  if (fX1_bits p0 (5 : Int32) (9 : Int32)) = (fX1_bits p0 (10 : Int32) (14 : Int32)) then (0 : Int32) else
  if (fX1_bits p0 (22 : Int32) (22 : Int32)) = 0 then (1 : Int32) else
  if (fX1_bits p0 (0 : Int32) (4 : Int32)) = (fX1_bits p0 (10 : Int32) (14 : Int32)) then (0 : Int32) else
  (1 : Int32)
theorem zX1_isPair (p0 : Int32) : fX1_isPair p0 = 0 ∨ fX1_isPair p0 = 1 := by
  unfold fX1_isPair
  repeat' split
  all_goals first | exact Or.inl rfl | exact Or.inr rfl
def fX1_isMoved (p0 : Int32) : Int32 :=
  if p0 < 0 then (1 : Int32) else
  if (fX1_bits p0 (15 : Int32) (15 : Int32)) = 0 then (1 : Int32) else
  (0 : Int32)
theorem zX1_isMoved (p0 : Int32) : fX1_isMoved p0 = 0 ∨ fX1_isMoved p0 = 1 := by
  unfold fX1_isMoved
  repeat' split
  all_goals first | exact Or.inl rfl | exact Or.inr rfl
def fX1_isByRegister (p0 : Int32) : Int32 :=
  if (fX1_bits p0 (21 : Int32) (21 : Int32)) = (1 : Int32) then (if (fX1_bits p0 (13 : Int32) (15 : Int32)) = (3 : Int32) then (if (fX1_bits p0 (10 : Int32) (11 : Int32)) = (2 : Int32) then (1 : Int32) else
      (0 : Int32)) else
    (0 : Int32)) else
  (0 : Int32)
theorem zX1_isByRegister (p0 : Int32) : fX1_isByRegister p0 = 0 ∨ fX1_isByRegister p0 = 1 := by
  unfold fX1_isByRegister
  repeat' split
  all_goals first | exact Or.inl rfl | exact Or.inr rfl
def fX1_isSize (p0 : Int32) : Int32 :=
  if (fX1_bits p0 (30 : Int32) (31 : Int32)) = (1 : Int32) then (0 : Int32) else
  if (fX1_bits p0 (22 : Int32) (23 : Int32)) < (2 : Int32) then (1 : Int32) else
  if (fX1_bits p0 (22 : Int32) (23 : Int32)) = (2 : Int32) then (if (fX1_bits p0 (30 : Int32) (31 : Int32)) = (2 : Int32) then (1 : Int32) else
    (0 : Int32)) else
  (0 : Int32)
theorem zX1_isSize (p0 : Int32) : fX1_isSize p0 = 0 ∨ fX1_isSize p0 = 1 := by
  unfold fX1_isSize
  repeat' split
  all_goals first | exact Or.inl rfl | exact Or.inr rfl
def fX1_inTwo (p0 : Int32) : Int32 :=
  if (fX1_bits p0 (21 : Int32) (23 : Int32)) = (6 : Int32) then (if (fX1_bits p0 (10 : Int32) (15 : Int32)) = (2 : Int32) then (7 : Int32) else
    if (fX1_bits p0 (10 : Int32) (15 : Int32)) = (3 : Int32) then (7 : Int32) else
    if (fX1_bits p0 (10 : Int32) (15 : Int32)) ≤ (7 : Int32) then (0 : Int32) else
    if (11 : Int32) ≤ (fX1_bits p0 (10 : Int32) (15 : Int32)) then (0 : Int32) else
    (7 : Int32)) else
  if (fX1_bits p0 (21 : Int32) (23 : Int32)) = (4 : Int32) then (if (fX1_bits p0 (11 : Int32) (11 : Int32)) = 0 then (if (14 : Int32) ≤ (fX1_bits p0 (12 : Int32) (15 : Int32)) then (0 : Int32) else
      (8 : Int32)) else
    (0 : Int32)) else
  (0 : Int32)
def fX1_goesByRegister (p0 : Int32) : Int32 :=
  if 0 < (fX1_bits p0 (0 : Int32) (4 : Int32)) then (0 : Int32) else
  if 0 < (fX1_bits p0 (10 : Int32) (15 : Int32)) then (0 : Int32) else
  if (fX1_bits p0 (16 : Int32) (20 : Int32)) = (31 : Int32) then (if (3 : Int32) ≤ (fX1_bits p0 (21 : Int32) (23 : Int32)) then (0 : Int32) else
    ((17 : Int32) + (fX1_bits p0 (21 : Int32) (23 : Int32)))) else
  (0 : Int32)
def fX1_jumps (p0 : Int32) : Int32 :=
  if (fX1_bits p0 (26 : Int32) (31 : Int32)) = (5 : Int32) then (12 : Int32) else
  if (fX1_bits p0 (26 : Int32) (31 : Int32)) = (37 : Int32) then (13 : Int32) else
  if (fX1_bits p0 (24 : Int32) (31 : Int32)) = (84 : Int32) then (if (fX1_bits p0 (4 : Int32) (4 : Int32)) = 0 then (if (14 : Int32) ≤ (fX1_bits p0 (0 : Int32) (3 : Int32)) then (0 : Int32) else
      (14 : Int32)) else
    (0 : Int32)) else
  if (fX1_bits p0 (25 : Int32) (30 : Int32)) = (26 : Int32) then (15 : Int32) else
  if (fX1_bits p0 (25 : Int32) (30 : Int32)) = (27 : Int32) then (16 : Int32) else
  if (fX1_bits p0 (24 : Int32) (31 : Int32)) = (214 : Int32) then (fX1_goesByRegister p0) else
  if (fX1_bits p0 (21 : Int32) (31 : Int32)) = (1696 : Int32) then (if (fX1_bits p0 (0 : Int32) (4 : Int32)) = (1 : Int32) then (20 : Int32) else
    if p0 = (-721215457 : Int32) then (21 : Int32) else
    (0 : Int32)) else
  if p0 = (-721215457 : Int32) then (21 : Int32) else
  (0 : Int32)
def fX1_kind (p0 : Int32) : Int32 :=
  if (fX1_bits p0 (24 : Int32) (28 : Int32)) = (8 : Int32) then (if (fX1_bits p0 (25 : Int32) (31 : Int32)) = (84 : Int32) then (if (fX1_isPair p0) = 0 then (0 : Int32) else
      (11 : Int32)) else
    (0 : Int32)) else
  if (fX1_bits p0 (24 : Int32) (28 : Int32)) = (9 : Int32) then (if (fX1_bits p0 (25 : Int32) (31 : Int32)) = (84 : Int32) then (if (fX1_isPair p0) = 0 then (0 : Int32) else
      (11 : Int32)) else
    (0 : Int32)) else
  if (fX1_bits p0 (24 : Int32) (28 : Int32)) = (10 : Int32) then (if (fX1_isMoved p0) = 0 then (0 : Int32) else
    (3 : Int32)) else
  if (fX1_bits p0 (24 : Int32) (28 : Int32)) = (11 : Int32) then (if (fX1_bits p0 (21 : Int32) (21 : Int32)) = 0 then (if (fX1_bits p0 (22 : Int32) (23 : Int32)) = (3 : Int32) then (0 : Int32) else
      if (fX1_isMoved p0) = 0 then (0 : Int32) else
      (2 : Int32)) else
    (0 : Int32)) else
  if (fX1_bits p0 (24 : Int32) (28 : Int32)) = (16 : Int32) then (if 0 ≤ p0 then (0 : Int32) else
    (5 : Int32)) else
  if (fX1_bits p0 (24 : Int32) (28 : Int32)) = (17 : Int32) then (if (fX1_bits p0 (23 : Int32) (23 : Int32)) = 0 then (1 : Int32) else
    (0 : Int32)) else
  if (fX1_bits p0 (24 : Int32) (28 : Int32)) = (18 : Int32) then (if (fX1_bits p0 (23 : Int32) (23 : Int32)) = (1 : Int32) then (if (fX1_bits p0 (29 : Int32) (30 : Int32)) = (1 : Int32) then (0 : Int32) else
      if p0 < 0 then (4 : Int32) else
      if (fX1_bits p0 (22 : Int32) (22 : Int32)) = 0 then (4 : Int32) else
      (0 : Int32)) else
    (0 : Int32)) else
  if (fX1_bits p0 (24 : Int32) (28 : Int32)) = (24 : Int32) then (if (fX1_bits p0 (29 : Int32) (29 : Int32)) = (1 : Int32) then (if (fX1_isByRegister p0) = 0 then (0 : Int32) else
      if (fX1_isSize p0) = 0 then (0 : Int32) else
      (10 : Int32)) else
    (0 : Int32)) else
  if (fX1_bits p0 (24 : Int32) (28 : Int32)) = (25 : Int32) then (if (fX1_bits p0 (29 : Int32) (29 : Int32)) = (1 : Int32) then (if (fX1_isSize p0) = 0 then (0 : Int32) else
      (9 : Int32)) else
    (0 : Int32)) else
  if (fX1_bits p0 (24 : Int32) (28 : Int32)) = (26 : Int32) then (if (fX1_bits p0 (29 : Int32) (30 : Int32)) ≤ 0 then (fX1_inTwo p0) else
    (0 : Int32)) else
  if (fX1_bits p0 (24 : Int32) (28 : Int32)) = (27 : Int32) then (if (fX1_bits p0 (21 : Int32) (23 : Int32)) = 0 then (if (fX1_bits p0 (29 : Int32) (30 : Int32)) = 0 then (6 : Int32) else
      (0 : Int32)) else
    (0 : Int32)) else
  (fX1_jumps p0)
def fX1_reach (p0 : Int32) : Int32 :=
  if p0 = (12 : Int32) then (134217728 : Int32) else
  if p0 = (13 : Int32) then (134217728 : Int32) else
  if p0 = (14 : Int32) then (1048576 : Int32) else
  if p0 = (15 : Int32) then (1048576 : Int32) else
  if p0 = (16 : Int32) then (32768 : Int32) else
  (0 : Int32)
def fX1_by (p0 : Int32) : Int32 :=
  if (fX1_kind p0) < (12 : Int32) then (1 : Int32) else
  if (fX1_kind p0) ≤ (16 : Int32) then (if (14 : Int32) ≤ (fX1_kind p0) then (if (16 : Int32) ≤ (fX1_kind p0) then ((4 : Int32) * (fX1_signed p0 (5 : Int32) (18 : Int32))) else
      ((4 : Int32) * (fX1_signed p0 (5 : Int32) (23 : Int32)))) else
    ((4 : Int32) * (fX1_signed p0 (0 : Int32) (25 : Int32)))) else
  (1 : Int32)
def fX1_reaches (p0 : Int32) (p1 : Int64) : Int32 :=
  if (fX1_reach (fX1_kind p0)) ≤ 0 then (0 : Int32) else
  if (lg_cmp (p1 - p1 / (4 : Int64) * (4 : Int64)) (0 : Int64)) = 0 then (if (lg_cmp p1 (((-(fX1_reach (fX1_kind p0)))).toInt64)) < 0 then (0 : Int32) else
    if 0 ≤ (lg_cmp p1 (((fX1_reach (fX1_kind p0))).toInt64)) then (0 : Int32) else
    (1 : Int32)) else
  (0 : Int32)
theorem zX1_reaches (p0 : Int32) (p1 : Int64) : fX1_reaches p0 p1 = 0 ∨ fX1_reaches p0 p1 = 1 := by
  unfold fX1_reaches
  repeat' split
  all_goals first | exact Or.inl rfl | exact Or.inr rfl
def fX1_going (p0 : Int32) (p1 : Int32) : Int32 :=
  if (fX1_reaches p0 ((p1).toInt64)) = 0 then p0 else
  if (14 : Int32) ≤ (fX1_kind p0) then ((p0 - (p0 &&& ((((fX1_reach (fX1_kind p0)) / (2 : Int32)) - (1 : Int32)) <<< ((5 : Int32) &&& 31)))) + (((p1 / (4 : Int32)) &&& (((fX1_reach (fX1_kind p0)) / (2 : Int32)) - (1 : Int32))) <<< ((5 : Int32) &&& 31))) else
  ((p0 - (p0 &&& ((((fX1_reach (fX1_kind p0)) / (2 : Int32)) - (1 : Int32)) <<< ((0 : Int32) &&& 31)))) + (((p1 / (4 : Int32)) &&& (((fX1_reach (fX1_kind p0)) / (2 : Int32)) - (1 : Int32))) <<< ((0 : Int32) &&& 31)))
def fX1_turned (p0 : Int32) : Int32 :=
  if (fX1_kind p0) = (14 : Int32) then (if (p0 &&& (1 : Int32)) = 0 then (p0 + (1 : Int32)) else
    (p0 - (1 : Int32))) else
  if (fX1_kind p0) = (15 : Int32) then (if (p0 &&& (16777216 : Int32)) = 0 then (p0 + (16777216 : Int32)) else
    (p0 - (16777216 : Int32))) else
  if (fX1_kind p0) = (16 : Int32) then (if (p0 &&& (16777216 : Int32)) = 0 then (p0 + (16777216 : Int32)) else
    (p0 - (16777216 : Int32))) else
  if (p0 &&& (0 : Int32)) = 0 then (p0 + (0 : Int32)) else
  (p0 - (0 : Int32))
def fX1_page (p0 : Int32) (p1 : Int64) : Int64 :=
  if (fX1_kind p0) = (5 : Int32) then ((p1 - (p1 &&& (4095 : Int64))) + ((4096 : Int64) * (((4 : Int64) * (((fX1_signed p0 (5 : Int32) (23 : Int32))).toInt64)) + (((fX1_bits p0 (29 : Int32) (30 : Int32))).toInt64)))) else
  (-1 : Int64)
def fX1_paging (p0 : Int32) (p1 : Int64) (p2 : Int64) : Int32 :=
  if (fX1_kind p0) = (5 : Int32) then (if (lg_cmp (((p2 - (p2 &&& (4095 : Int64))) - (p1 - (p1 &&& (4095 : Int64)))) / (4096 : Int64)) (-1048576 : Int64)) < 0 then p0 else
    if (lg_cmp (((p2 - (p2 &&& (4095 : Int64))) - (p1 - (p1 &&& (4095 : Int64)))) / (4096 : Int64)) (1048575 : Int64)) ≤ 0 then ((((fX1_bits p0 (0 : Int32) (4 : Int32)) - (1879048192 : Int32)) + (((((((p2 - (p2 &&& (4095 : Int64))) - (p1 - (p1 &&& (4095 : Int64)))) / (4096 : Int64)) &&& (3 : Int64))).toInt32) * (536870912 : Int32))) + (((((((((p2 - (p2 &&& (4095 : Int64))) - (p1 - (p1 &&& (4095 : Int64)))) / (4096 : Int64)) - ((((((((p2 - (p2 &&& (4095 : Int64))) - (p1 - (p1 &&& (4095 : Int64)))) / (4096 : Int64)) &&& (3 : Int64))).toInt32)).toInt64)) / (4 : Int64)) &&& (524287 : Int64))).toInt32) * (32 : Int32))) else
    p0) else
  p0
def fX1_goesOn (p0 : Int32) : Int32 :=
  if (fX1_kind p0) ≤ 0 then (0 : Int32) else
  if (fX1_kind p0) = (12 : Int32) then (0 : Int32) else
  if (fX1_kind p0) = (17 : Int32) then (0 : Int32) else
  if (fX1_kind p0) = (19 : Int32) then (0 : Int32) else
  (1 : Int32)
theorem zX1_goesOn (p0 : Int32) : fX1_goesOn p0 = 0 ∨ fX1_goesOn p0 = 1 := by
  unfold fX1_goesOn
  repeat' split
  all_goals first | exact Or.inl rfl | exact Or.inr rfl
def fX1_register (p0 : Int32) (p1 : Int32) : Int32 :=
  if p1 = 0 then (if (fX1_kind p0) ≤ 0 then (if (fX1_kind p0) = (15 : Int32) then (fX1_bits p0 (0 : Int32) ((0 : Int32) + (4 : Int32))) else
      if (fX1_kind p0) = (16 : Int32) then (fX1_bits p0 (0 : Int32) ((0 : Int32) + (4 : Int32))) else
      (-1 : Int32)) else
    if (fX1_kind p0) < (12 : Int32) then (fX1_bits p0 (0 : Int32) ((0 : Int32) + (4 : Int32))) else
    if (fX1_kind p0) = (15 : Int32) then (fX1_bits p0 (0 : Int32) ((0 : Int32) + (4 : Int32))) else
    if (fX1_kind p0) = (16 : Int32) then (fX1_bits p0 (0 : Int32) ((0 : Int32) + (4 : Int32))) else
    (-1 : Int32)) else
  if p1 = (1 : Int32) then (if (fX1_kind p0) ≤ 0 then (if (fX1_kind p0) ≤ (5 : Int32) then (if (fX1_kind p0) ≤ (16 : Int32) then (-1 : Int32) else
        if (20 : Int32) ≤ (fX1_kind p0) then (-1 : Int32) else
        (fX1_bits p0 (5 : Int32) ((5 : Int32) + (4 : Int32)))) else
      if (fX1_kind p0) < (12 : Int32) then (fX1_bits p0 (5 : Int32) ((5 : Int32) + (4 : Int32))) else
      if (fX1_kind p0) ≤ (16 : Int32) then (-1 : Int32) else
      if (20 : Int32) ≤ (fX1_kind p0) then (-1 : Int32) else
      (fX1_bits p0 (5 : Int32) ((5 : Int32) + (4 : Int32)))) else
    if (fX1_kind p0) < (4 : Int32) then (fX1_bits p0 (5 : Int32) ((5 : Int32) + (4 : Int32))) else
    if (fX1_kind p0) ≤ (5 : Int32) then (if (fX1_kind p0) ≤ (16 : Int32) then (-1 : Int32) else
      if (20 : Int32) ≤ (fX1_kind p0) then (-1 : Int32) else
      (fX1_bits p0 (5 : Int32) ((5 : Int32) + (4 : Int32)))) else
    if (fX1_kind p0) < (12 : Int32) then (fX1_bits p0 (5 : Int32) ((5 : Int32) + (4 : Int32))) else
    if (fX1_kind p0) ≤ (16 : Int32) then (-1 : Int32) else
    if (20 : Int32) ≤ (fX1_kind p0) then (-1 : Int32) else
    (fX1_bits p0 (5 : Int32) ((5 : Int32) + (4 : Int32)))) else
  if p1 = (2 : Int32) then (if (fX1_kind p0) = (2 : Int32) then (fX1_bits p0 (16 : Int32) ((16 : Int32) + (4 : Int32))) else
    if (fX1_kind p0) = (3 : Int32) then (fX1_bits p0 (16 : Int32) ((16 : Int32) + (4 : Int32))) else
    if (fX1_kind p0) ≤ (5 : Int32) then (if (fX1_kind p0) = (10 : Int32) then (fX1_bits p0 (16 : Int32) ((16 : Int32) + (4 : Int32))) else
      (-1 : Int32)) else
    if (fX1_kind p0) < (9 : Int32) then (fX1_bits p0 (16 : Int32) ((16 : Int32) + (4 : Int32))) else
    if (fX1_kind p0) = (10 : Int32) then (fX1_bits p0 (16 : Int32) ((16 : Int32) + (4 : Int32))) else
    (-1 : Int32)) else
  if p1 = (3 : Int32) then (if (fX1_kind p0) = (6 : Int32) then (fX1_bits p0 (10 : Int32) ((10 : Int32) + (4 : Int32))) else
    if (fX1_kind p0) = (11 : Int32) then (fX1_bits p0 (10 : Int32) ((10 : Int32) + (4 : Int32))) else
    (-1 : Int32)) else
  (-1 : Int32)
