theorem ft0_0 : mx_ftT 0 0 = some (.int, true, "FallingSlates$Seller") := rfl
theorem ft0_1 : mx_ftT 0 1 = some (.int, true, "FallingSlates$Seller") := rfl
theorem ft0_2 : mx_ftT 0 2 = some (.int, true, "FallingSlates$Seller") := rfl
theorem ft0_3 : mx_ftT 0 3 = some (.int, true, "FallingSlates$Seller") := rfl
theorem ft0_4 : mx_ftT 0 4 = some (.int, true, "FallingSlates$Seller") := rfl
theorem ft1_0 : mx_ftT 1 0 = some (.int, true, "FallingSlates$Seller") := rfl
theorem ft1_1 : mx_ftT 1 1 = some (.int, true, "FallingSlates$Seller") := rfl
theorem ft1_2 : mx_ftT 1 2 = some (.int, true, "FallingSlates$Seller") := rfl
theorem ft1_3 : mx_ftT 1 3 = some (.int, true, "FallingSlates$Seller") := rfl
theorem ft1_4 : mx_ftT 1 4 = some (.int, true, "FallingSlates$Seller") := rfl
theorem ft2_0 : mx_ftT 2 0 = some (.int, true, "FallingSlates$Seller") := rfl
theorem ft2_1 : mx_ftT 2 1 = some (.int, true, "FallingSlates$Seller") := rfl
theorem ft2_2 : mx_ftT 2 2 = some (.int, true, "FallingSlates$Seller") := rfl
theorem ft2_3 : mx_ftT 2 3 = some (.int, true, "FallingSlates$Seller") := rfl
theorem ft2_4 : mx_ftT 2 4 = some (.int, true, "FallingSlates$Seller") := rfl
theorem ft3_0 : mx_ftT 3 0 = some (.int, false, "FallingSlates$Market") := rfl
theorem ft3_1 : mx_ftT 3 1 = some (.int, false, "FallingSlates$Market") := rfl
theorem ft3_2 : mx_ftT 3 2 = some (.int, false, "FallingSlates$Market") := rfl
theorem ft3_3 : mx_ftT 3 3 = some (.boolean, false, "FallingSlates$Market") := rfl
theorem ft3_4 : mx_ftT 3 4 = some ((.array .int), true, "FallingSlates$Market") := rfl
theorem ft3_5 : mx_ftT 3 5 = some ((.array (.object "FallingSlates$Text")), true, "FallingSlates$Market") := rfl
theorem ft3_6 : mx_ftT 3 6 = some ((.array (.object "FallingSlates$Seller")), true, "FallingSlates$Market") := rfl
theorem ft3_7 : mx_ftT 3 7 = some (.int, false, "FallingSlates$Market") := rfl
theorem ft3_8 : mx_ftT 3 8 = some ((.array .int), true, "FallingSlates$Market") := rfl
theorem ft3_9 : mx_ftT 3 9 = some ((.array .int), true, "FallingSlates$Market") := rfl
theorem ft3_10 : mx_ftT 3 10 = some ((.array .int), true, "FallingSlates$Market") := rfl
theorem ft3_11 : mx_ftT 3 11 = some ((.array .int), true, "FallingSlates$Market") := rfl
theorem ft3_12 : mx_ftT 3 12 = some (.int, false, "FallingSlates$Market") := rfl
theorem ft3_13 : mx_ftT 3 13 = some ((.array .int), true, "FallingSlates$Market") := rfl
theorem ft3_14 : mx_ftT 3 14 = some ((.array .int), true, "FallingSlates$Market") := rfl
theorem ft3_15 : mx_ftT 3 15 = some ((.array .int), true, "FallingSlates$Market") := rfl
theorem ft3_16 : mx_ftT 3 16 = some ((.array .int), true, "FallingSlates$Market") := rfl
theorem ft4_0 : mx_ftT 4 0 = some (.int, true, "FallingSlates$Seller") := rfl
theorem ft4_1 : mx_ftT 4 1 = some (.int, true, "FallingSlates$Seller") := rfl
theorem ft4_2 : mx_ftT 4 2 = some (.int, true, "FallingSlates$Seller") := rfl
theorem ft4_3 : mx_ftT 4 3 = some (.int, true, "FallingSlates$Seller") := rfl
theorem ft4_4 : mx_ftT 4 4 = some (.int, true, "FallingSlates$Seller") := rfl
theorem ft5_0 : mx_ftT 5 0 = some ((.array .int), true, "FallingSlates$Row") := rfl
theorem ft5_1 : mx_ftT 5 1 = some (.int, false, "FallingSlates$Row") := rfl
theorem ft6_0 : mx_ftT 6 0 = some (.int, true, "FallingSlates$Seller") := rfl
theorem ft6_1 : mx_ftT 6 1 = some (.int, true, "FallingSlates$Seller") := rfl
theorem ft6_2 : mx_ftT 6 2 = some (.int, true, "FallingSlates$Seller") := rfl
theorem ft6_3 : mx_ftT 6 3 = some (.int, true, "FallingSlates$Seller") := rfl
theorem ft6_4 : mx_ftT 6 4 = some (.int, true, "FallingSlates$Seller") := rfl
theorem ft7_0 : mx_ftT 7 0 = some ((.array .int), true, "FallingSlates$Sheet") := rfl
theorem ft7_1 : mx_ftT 7 1 = some (.int, false, "FallingSlates$Sheet") := rfl
theorem ft7_2 : mx_ftT 7 2 = some (.int, false, "FallingSlates$Sheet") := rfl
theorem ft8_0 : mx_ftT 8 0 = some (.int, true, "FallingSlates$Seller") := rfl
theorem ft8_1 : mx_ftT 8 1 = some (.int, true, "FallingSlates$Seller") := rfl
theorem ft8_2 : mx_ftT 8 2 = some (.int, true, "FallingSlates$Seller") := rfl
theorem ft8_3 : mx_ftT 8 3 = some (.int, true, "FallingSlates$Seller") := rfl
theorem ft8_4 : mx_ftT 8 4 = some (.int, true, "FallingSlates$Seller") := rfl
theorem ft9_0 : mx_ftT 9 0 = some (.int, true, "FallingSlates$Seller") := rfl
theorem ft9_1 : mx_ftT 9 1 = some (.int, true, "FallingSlates$Seller") := rfl
theorem ft9_2 : mx_ftT 9 2 = some (.int, true, "FallingSlates$Seller") := rfl
theorem ft9_3 : mx_ftT 9 3 = some (.int, true, "FallingSlates$Seller") := rfl
theorem ft9_4 : mx_ftT 9 4 = some (.int, true, "FallingSlates$Seller") := rfl
theorem ft10_0 : mx_ftT 10 0 = some ((.object "FallingSlates$Row"), true, "FallingSlates$Text") := rfl
theorem ft10_1 : mx_ftT 10 1 = some (.int, true, "FallingSlates$Text") := rfl
theorem ft10_2 : mx_ftT 10 2 = some ((.object "java/lang/String"), true, "FallingSlates$Text") := rfl
theorem ft10_3 : mx_ftT 10 3 = some (.int, false, "FallingSlates$Text") := rfl
theorem ft10_4 : mx_ftT 10 4 = some ((.array .int), true, "FallingSlates$Text") := rfl
theorem ft10_5 : mx_ftT 10 5 = some ((.array .int), true, "FallingSlates$Text") := rfl
theorem ft10_6 : mx_ftT 10 6 = some ((.array .int), true, "FallingSlates$Text") := rfl
theorem ft10_7 : mx_ftT 10 7 = some ((.array .int), true, "FallingSlates$Text") := rfl
theorem ft10_8 : mx_ftT 10 8 = some (.int, false, "FallingSlates$Text") := rfl
theorem ft10_9 : mx_ftT 10 9 = some (.int, false, "FallingSlates$Text") := rfl
theorem ft11_0 : mx_ftT 11 0 = some ((.object "FallingSlates$Market"), true, "FallingSlates") := rfl
theorem ft11_1 : mx_ftT 11 1 = some ((.object "FallingSlates$Row"), true, "FallingSlates") := rfl
theorem ft11_2 : mx_ftT 11 2 = some ((.object "FallingSlates$Row"), true, "FallingSlates") := rfl
theorem ft11_3 : mx_ftT 11 3 = some (.int, false, "FallingSlates") := rfl
theorem ft11_4 : mx_ftT 11 4 = some ((.object "FallingSlates$Market"), true, "FallingSlates") := rfl
theorem ft11_5 : mx_ftT 11 5 = some ((.object "FallingSlates$Row"), true, "FallingSlates") := rfl
theorem ft11_6 : mx_ftT 11 6 = some ((.object "FallingSlates$Row"), true, "FallingSlates") := rfl
theorem ft11_7 : mx_ftT 11 7 = some (.int, false, "FallingSlates") := rfl
theorem ft11_8 : mx_ftT 11 8 = some (.int, false, "FallingSlates") := rfl
theorem ft11_9 : mx_ftT 11 9 = some ((.object "FallingSlates$Row"), true, "FallingSlates") := rfl
theorem ft11_10 : mx_ftT 11 10 = some ((.array (.object "FallingSlates$Sheet")), true, "FallingSlates") := rfl
theorem ft11_11 : mx_ftT 11 11 = some ((.array .int), true, "FallingSlates") := rfl
theorem ft11_12 : mx_ftT 11 12 = some ((.object "FallingSlates$Market"), true, "FallingSlates") := rfl
theorem ft11_13 : mx_ftT 11 13 = some ((.array (.object "FallingSlates$Market")), true, "FallingSlates") := rfl
theorem ft11_14 : mx_ftT 11 14 = some ((.array .int), true, "FallingSlates") := rfl
theorem ft11_15 : mx_ftT 11 15 = some ((.array .int), true, "FallingSlates") := rfl
theorem ft11_16 : mx_ftT 11 16 = some (.int, false, "FallingSlates") := rfl
theorem ft12_0 : mx_ftT 12 0 = some ((.array .int), true, "FallingSlatesModel") := rfl
theorem ft12_1 : mx_ftT 12 1 = some ((.array .int), true, "FallingSlatesModel") := rfl
theorem ft12_2 : mx_ftT 12 2 = some ((.array .int), true, "FallingSlatesModel") := rfl
theorem ft12_3 : mx_ftT 12 3 = some (.int, false, "FallingSlatesModel") := rfl
theorem ft12_4 : mx_ftT 12 4 = some ((.array .int), true, "FallingSlatesModel") := rfl
theorem ft12_5 : mx_ftT 12 5 = some (.int, false, "FallingSlatesModel") := rfl
theorem ft12_6 : mx_ftT 12 6 = some (.int, false, "FallingSlatesModel") := rfl
theorem ft12_7 : mx_ftT 12 7 = some (.int, false, "FallingSlatesModel") := rfl
theorem ft12_8 : mx_ftT 12 8 = some (.int, false, "FallingSlatesModel") := rfl
theorem ft12_9 : mx_ftT 12 9 = some (.int, false, "FallingSlatesModel") := rfl
theorem ft12_10 : mx_ftT 12 10 = some (.boolean, false, "FallingSlatesModel") := rfl
theorem ft12_11 : mx_ftT 12 11 = some ((.array .int), true, "FallingSlatesModel") := rfl
theorem ft12_12 : mx_ftT 12 12 = some ((.array .int), true, "FallingSlatesModel") := rfl
theorem ft12_13 : mx_ftT 12 13 = some (.int, false, "FallingSlatesModel") := rfl
theorem ft12_14 : mx_ftT 12 14 = some ((.array .int), true, "FallingSlatesModel") := rfl
theorem ft12_15 : mx_ftT 12 15 = some ((.array .boolean), true, "FallingSlatesModel") := rfl
theorem ft12_16 : mx_ftT 12 16 = some ((.array .int), true, "FallingSlatesModel") := rfl
theorem ft12_17 : mx_ftT 12 17 = some ((.array .int), true, "FallingSlatesModel") := rfl
theorem ft12_18 : mx_ftT 12 18 = some (.int, false, "FallingSlatesModel") := rfl
theorem ft12_19 : mx_ftT 12 19 = some (.int, false, "FallingSlatesModel") := rfl
theorem ft12_20 : mx_ftT 12 20 = some ((.array .int), true, "FallingSlatesModel") := rfl
theorem ft12_21 : mx_ftT 12 21 = some ((.array .int), true, "FallingSlatesModel") := rfl
theorem ft12_22 : mx_ftT 12 22 = some ((.array .int), true, "FallingSlatesModel") := rfl
theorem ft12_23 : mx_ftT 12 23 = some ((.array .int), true, "FallingSlatesModel") := rfl
theorem fa_wide_le (a b : Int32) : a.toInt64 ≤ b.toInt64 ↔ a ≤ b := by
  rw [Int64.le_iff_toInt_le, Int32.le_iff_toInt_le, Int32.toInt_toInt64, Int32.toInt_toInt64]
theorem lj0a {v : Int32} : (((-99999999) : Int64) ≤ v.toInt64) = ((-99999999) ≤ v) := propext (by rw [show ((-99999999) : Int64) = (((-99999999) : Int32)).toInt64 from by decide]; exact fa_wide_le _ _)
theorem lj0b {v : Int32} : (v.toInt64 ≤ ((-99999999) : Int64)) = (v ≤ (-99999999)) := propext (by rw [show ((-99999999) : Int64) = (((-99999999) : Int32)).toInt64 from by decide]; exact fa_wide_le _ _)
theorem lj1a {v : Int32} : (((-1) : Int64) ≤ v.toInt64) = ((-1) ≤ v) := propext (by rw [show ((-1) : Int64) = (((-1) : Int32)).toInt64 from by decide]; exact fa_wide_le _ _)
theorem lj1b {v : Int32} : (v.toInt64 ≤ ((-1) : Int64)) = (v ≤ (-1)) := propext (by rw [show ((-1) : Int64) = (((-1) : Int32)).toInt64 from by decide]; exact fa_wide_le _ _)
theorem lj2a {v : Int32} : ((0 : Int64) ≤ v.toInt64) = (0 ≤ v) := propext (by rw [show (0 : Int64) = ((0 : Int32)).toInt64 from by decide]; exact fa_wide_le _ _)
theorem lj2b {v : Int32} : (v.toInt64 ≤ (0 : Int64)) = (v ≤ 0) := propext (by rw [show (0 : Int64) = ((0 : Int32)).toInt64 from by decide]; exact fa_wide_le _ _)
theorem lj3a {v : Int32} : ((1 : Int64) ≤ v.toInt64) = (1 ≤ v) := propext (by rw [show (1 : Int64) = ((1 : Int32)).toInt64 from by decide]; exact fa_wide_le _ _)
theorem lj3b {v : Int32} : (v.toInt64 ≤ (1 : Int64)) = (v ≤ 1) := propext (by rw [show (1 : Int64) = ((1 : Int32)).toInt64 from by decide]; exact fa_wide_le _ _)
theorem lj4a {v : Int32} : ((2 : Int64) ≤ v.toInt64) = (2 ≤ v) := propext (by rw [show (2 : Int64) = ((2 : Int32)).toInt64 from by decide]; exact fa_wide_le _ _)
theorem lj4b {v : Int32} : (v.toInt64 ≤ (2 : Int64)) = (v ≤ 2) := propext (by rw [show (2 : Int64) = ((2 : Int32)).toInt64 from by decide]; exact fa_wide_le _ _)
theorem lj5a {v : Int32} : ((3 : Int64) ≤ v.toInt64) = (3 ≤ v) := propext (by rw [show (3 : Int64) = ((3 : Int32)).toInt64 from by decide]; exact fa_wide_le _ _)
theorem lj5b {v : Int32} : (v.toInt64 ≤ (3 : Int64)) = (v ≤ 3) := propext (by rw [show (3 : Int64) = ((3 : Int32)).toInt64 from by decide]; exact fa_wide_le _ _)
theorem lj6a {v : Int32} : ((4 : Int64) ≤ v.toInt64) = (4 ≤ v) := propext (by rw [show (4 : Int64) = ((4 : Int32)).toInt64 from by decide]; exact fa_wide_le _ _)
theorem lj6b {v : Int32} : (v.toInt64 ≤ (4 : Int64)) = (v ≤ 4) := propext (by rw [show (4 : Int64) = ((4 : Int32)).toInt64 from by decide]; exact fa_wide_le _ _)
theorem lj7a {v : Int32} : ((5 : Int64) ≤ v.toInt64) = (5 ≤ v) := propext (by rw [show (5 : Int64) = ((5 : Int32)).toInt64 from by decide]; exact fa_wide_le _ _)
theorem lj7b {v : Int32} : (v.toInt64 ≤ (5 : Int64)) = (v ≤ 5) := propext (by rw [show (5 : Int64) = ((5 : Int32)).toInt64 from by decide]; exact fa_wide_le _ _)
theorem lj8a {v : Int32} : ((6 : Int64) ≤ v.toInt64) = (6 ≤ v) := propext (by rw [show (6 : Int64) = ((6 : Int32)).toInt64 from by decide]; exact fa_wide_le _ _)
theorem lj8b {v : Int32} : (v.toInt64 ≤ (6 : Int64)) = (v ≤ 6) := propext (by rw [show (6 : Int64) = ((6 : Int32)).toInt64 from by decide]; exact fa_wide_le _ _)
theorem lj9a {v : Int32} : ((8 : Int64) ≤ v.toInt64) = (8 ≤ v) := propext (by rw [show (8 : Int64) = ((8 : Int32)).toInt64 from by decide]; exact fa_wide_le _ _)
theorem lj9b {v : Int32} : (v.toInt64 ≤ (8 : Int64)) = (v ≤ 8) := propext (by rw [show (8 : Int64) = ((8 : Int32)).toInt64 from by decide]; exact fa_wide_le _ _)
theorem lj10a {v : Int32} : ((9 : Int64) ≤ v.toInt64) = (9 ≤ v) := propext (by rw [show (9 : Int64) = ((9 : Int32)).toInt64 from by decide]; exact fa_wide_le _ _)
theorem lj10b {v : Int32} : (v.toInt64 ≤ (9 : Int64)) = (v ≤ 9) := propext (by rw [show (9 : Int64) = ((9 : Int32)).toInt64 from by decide]; exact fa_wide_le _ _)
theorem lj11a {v : Int32} : ((40 : Int64) ≤ v.toInt64) = (40 ≤ v) := propext (by rw [show (40 : Int64) = ((40 : Int32)).toInt64 from by decide]; exact fa_wide_le _ _)
theorem lj11b {v : Int32} : (v.toInt64 ≤ (40 : Int64)) = (v ≤ 40) := propext (by rw [show (40 : Int64) = ((40 : Int32)).toInt64 from by decide]; exact fa_wide_le _ _)
theorem lj12a {v : Int32} : ((48 : Int64) ≤ v.toInt64) = (48 ≤ v) := propext (by rw [show (48 : Int64) = ((48 : Int32)).toInt64 from by decide]; exact fa_wide_le _ _)
theorem lj12b {v : Int32} : (v.toInt64 ≤ (48 : Int64)) = (v ≤ 48) := propext (by rw [show (48 : Int64) = ((48 : Int32)).toInt64 from by decide]; exact fa_wide_le _ _)
theorem lj13a {v : Int32} : ((57 : Int64) ≤ v.toInt64) = (57 ≤ v) := propext (by rw [show (57 : Int64) = ((57 : Int32)).toInt64 from by decide]; exact fa_wide_le _ _)
theorem lj13b {v : Int32} : (v.toInt64 ≤ (57 : Int64)) = (v ≤ 57) := propext (by rw [show (57 : Int64) = ((57 : Int32)).toInt64 from by decide]; exact fa_wide_le _ _)
theorem lj14a {v : Int32} : ((60 : Int64) ≤ v.toInt64) = (60 ≤ v) := propext (by rw [show (60 : Int64) = ((60 : Int32)).toInt64 from by decide]; exact fa_wide_le _ _)
theorem lj14b {v : Int32} : (v.toInt64 ≤ (60 : Int64)) = (v ≤ 60) := propext (by rw [show (60 : Int64) = ((60 : Int32)).toInt64 from by decide]; exact fa_wide_le _ _)
theorem lj15a {v : Int32} : ((99 : Int64) ≤ v.toInt64) = (99 ≤ v) := propext (by rw [show (99 : Int64) = ((99 : Int32)).toInt64 from by decide]; exact fa_wide_le _ _)
theorem lj15b {v : Int32} : (v.toInt64 ≤ (99 : Int64)) = (v ≤ 99) := propext (by rw [show (99 : Int64) = ((99 : Int32)).toInt64 from by decide]; exact fa_wide_le _ _)
theorem lj16a {v : Int32} : ((255 : Int64) ≤ v.toInt64) = (255 ≤ v) := propext (by rw [show (255 : Int64) = ((255 : Int32)).toInt64 from by decide]; exact fa_wide_le _ _)
theorem lj16b {v : Int32} : (v.toInt64 ≤ (255 : Int64)) = (v ≤ 255) := propext (by rw [show (255 : Int64) = ((255 : Int32)).toInt64 from by decide]; exact fa_wide_le _ _)
theorem lj17a {v : Int32} : ((999 : Int64) ≤ v.toInt64) = (999 ≤ v) := propext (by rw [show (999 : Int64) = ((999 : Int32)).toInt64 from by decide]; exact fa_wide_le _ _)
theorem lj17b {v : Int32} : (v.toInt64 ≤ (999 : Int64)) = (v ≤ 999) := propext (by rw [show (999 : Int64) = ((999 : Int32)).toInt64 from by decide]; exact fa_wide_le _ _)
theorem lj18a {v : Int32} : ((9999 : Int64) ≤ v.toInt64) = (9999 ≤ v) := propext (by rw [show (9999 : Int64) = ((9999 : Int32)).toInt64 from by decide]; exact fa_wide_le _ _)
theorem lj18b {v : Int32} : (v.toInt64 ≤ (9999 : Int64)) = (v ≤ 9999) := propext (by rw [show (9999 : Int64) = ((9999 : Int32)).toInt64 from by decide]; exact fa_wide_le _ _)
theorem lj19a {v : Int32} : ((99999999 : Int64) ≤ v.toInt64) = (99999999 ≤ v) := propext (by rw [show (99999999 : Int64) = ((99999999 : Int32)).toInt64 from by decide]; exact fa_wide_le _ _)
theorem lj19b {v : Int32} : (v.toInt64 ≤ (99999999 : Int64)) = (v ≤ 99999999) := propext (by rw [show (99999999 : Int64) = ((99999999 : Int32)).toInt64 from by decide]; exact fa_wide_le _ _)
