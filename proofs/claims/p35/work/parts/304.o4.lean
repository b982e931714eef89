def O4 (z : Nat → Nat) (i5 i6 i7 i8 i9 i10 i11 i12 i13 : Int32) : List Value := [.ref (z 0), .ref (z 1), .ref (z 2), .ref (z 3), .ref (z 4), .int i5, .int i6, .int i7, .int i8, .int i9, .int i10, .int i11, .int i12, .int i13]
theorem o4x_0 {z : Nat → Nat} {i5 i6 i7 i8 i9 i10 i11 i12 i13 : Int32} : (O4 z i5 i6 i7 i8 i9 i10 i11 i12 i13)[0]? = some (.ref (z 0)) := rfl
theorem o4x_1 {z : Nat → Nat} {i5 i6 i7 i8 i9 i10 i11 i12 i13 : Int32} : (O4 z i5 i6 i7 i8 i9 i10 i11 i12 i13)[1]? = some (.ref (z 1)) := rfl
theorem o4x_2 {z : Nat → Nat} {i5 i6 i7 i8 i9 i10 i11 i12 i13 : Int32} : (O4 z i5 i6 i7 i8 i9 i10 i11 i12 i13)[2]? = some (.ref (z 2)) := rfl
theorem o4x_3 {z : Nat → Nat} {i5 i6 i7 i8 i9 i10 i11 i12 i13 : Int32} : (O4 z i5 i6 i7 i8 i9 i10 i11 i12 i13)[3]? = some (.ref (z 3)) := rfl
theorem o4x_4 {z : Nat → Nat} {i5 i6 i7 i8 i9 i10 i11 i12 i13 : Int32} : (O4 z i5 i6 i7 i8 i9 i10 i11 i12 i13)[4]? = some (.ref (z 4)) := rfl
theorem o4x_5 {z : Nat → Nat} {i5 i6 i7 i8 i9 i10 i11 i12 i13 : Int32} : (O4 z i5 i6 i7 i8 i9 i10 i11 i12 i13)[5]? = some (.int i5) := rfl
theorem o4l_5 {z : Nat → Nat} {i5 i6 i7 i8 i9 i10 i11 i12 i13 : Int32} : 5 < (O4 z i5 i6 i7 i8 i9 i10 i11 i12 i13).length := Nat.le_of_ble_eq_true rfl
theorem o4s_5 {z : Nat → Nat} {i5 i6 i7 i8 i9 i10 i11 i12 i13 v : Int32} : (O4 z i5 i6 i7 i8 i9 i10 i11 i12 i13).set 5 (.int v) = O4 z v i6 i7 i8 i9 i10 i11 i12 i13 := rfl
theorem o4x_6 {z : Nat → Nat} {i5 i6 i7 i8 i9 i10 i11 i12 i13 : Int32} : (O4 z i5 i6 i7 i8 i9 i10 i11 i12 i13)[6]? = some (.int i6) := rfl
theorem o4l_6 {z : Nat → Nat} {i5 i6 i7 i8 i9 i10 i11 i12 i13 : Int32} : 6 < (O4 z i5 i6 i7 i8 i9 i10 i11 i12 i13).length := Nat.le_of_ble_eq_true rfl
theorem o4s_6 {z : Nat → Nat} {i5 i6 i7 i8 i9 i10 i11 i12 i13 v : Int32} : (O4 z i5 i6 i7 i8 i9 i10 i11 i12 i13).set 6 (.int v) = O4 z i5 v i7 i8 i9 i10 i11 i12 i13 := rfl
theorem o4x_7 {z : Nat → Nat} {i5 i6 i7 i8 i9 i10 i11 i12 i13 : Int32} : (O4 z i5 i6 i7 i8 i9 i10 i11 i12 i13)[7]? = some (.int i7) := rfl
theorem o4l_7 {z : Nat → Nat} {i5 i6 i7 i8 i9 i10 i11 i12 i13 : Int32} : 7 < (O4 z i5 i6 i7 i8 i9 i10 i11 i12 i13).length := Nat.le_of_ble_eq_true rfl
theorem o4s_7 {z : Nat → Nat} {i5 i6 i7 i8 i9 i10 i11 i12 i13 v : Int32} : (O4 z i5 i6 i7 i8 i9 i10 i11 i12 i13).set 7 (.int v) = O4 z i5 i6 v i8 i9 i10 i11 i12 i13 := rfl
theorem o4x_8 {z : Nat → Nat} {i5 i6 i7 i8 i9 i10 i11 i12 i13 : Int32} : (O4 z i5 i6 i7 i8 i9 i10 i11 i12 i13)[8]? = some (.int i8) := rfl
theorem o4l_8 {z : Nat → Nat} {i5 i6 i7 i8 i9 i10 i11 i12 i13 : Int32} : 8 < (O4 z i5 i6 i7 i8 i9 i10 i11 i12 i13).length := Nat.le_of_ble_eq_true rfl
theorem o4s_8 {z : Nat → Nat} {i5 i6 i7 i8 i9 i10 i11 i12 i13 v : Int32} : (O4 z i5 i6 i7 i8 i9 i10 i11 i12 i13).set 8 (.int v) = O4 z i5 i6 i7 v i9 i10 i11 i12 i13 := rfl
theorem o4x_9 {z : Nat → Nat} {i5 i6 i7 i8 i9 i10 i11 i12 i13 : Int32} : (O4 z i5 i6 i7 i8 i9 i10 i11 i12 i13)[9]? = some (.int i9) := rfl
theorem o4l_9 {z : Nat → Nat} {i5 i6 i7 i8 i9 i10 i11 i12 i13 : Int32} : 9 < (O4 z i5 i6 i7 i8 i9 i10 i11 i12 i13).length := Nat.le_of_ble_eq_true rfl
theorem o4s_9 {z : Nat → Nat} {i5 i6 i7 i8 i9 i10 i11 i12 i13 v : Int32} : (O4 z i5 i6 i7 i8 i9 i10 i11 i12 i13).set 9 (.int v) = O4 z i5 i6 i7 i8 v i10 i11 i12 i13 := rfl
theorem o4x_10 {z : Nat → Nat} {i5 i6 i7 i8 i9 i10 i11 i12 i13 : Int32} : (O4 z i5 i6 i7 i8 i9 i10 i11 i12 i13)[10]? = some (.int i10) := rfl
theorem o4l_10 {z : Nat → Nat} {i5 i6 i7 i8 i9 i10 i11 i12 i13 : Int32} : 10 < (O4 z i5 i6 i7 i8 i9 i10 i11 i12 i13).length := Nat.le_of_ble_eq_true rfl
theorem o4s_10 {z : Nat → Nat} {i5 i6 i7 i8 i9 i10 i11 i12 i13 v : Int32} : (O4 z i5 i6 i7 i8 i9 i10 i11 i12 i13).set 10 (.int v) = O4 z i5 i6 i7 i8 i9 v i11 i12 i13 := rfl
theorem o4x_11 {z : Nat → Nat} {i5 i6 i7 i8 i9 i10 i11 i12 i13 : Int32} : (O4 z i5 i6 i7 i8 i9 i10 i11 i12 i13)[11]? = some (.int i11) := rfl
theorem o4l_11 {z : Nat → Nat} {i5 i6 i7 i8 i9 i10 i11 i12 i13 : Int32} : 11 < (O4 z i5 i6 i7 i8 i9 i10 i11 i12 i13).length := Nat.le_of_ble_eq_true rfl
theorem o4s_11 {z : Nat → Nat} {i5 i6 i7 i8 i9 i10 i11 i12 i13 v : Int32} : (O4 z i5 i6 i7 i8 i9 i10 i11 i12 i13).set 11 (.int v) = O4 z i5 i6 i7 i8 i9 i10 v i12 i13 := rfl
theorem o4x_12 {z : Nat → Nat} {i5 i6 i7 i8 i9 i10 i11 i12 i13 : Int32} : (O4 z i5 i6 i7 i8 i9 i10 i11 i12 i13)[12]? = some (.int i12) := rfl
theorem o4l_12 {z : Nat → Nat} {i5 i6 i7 i8 i9 i10 i11 i12 i13 : Int32} : 12 < (O4 z i5 i6 i7 i8 i9 i10 i11 i12 i13).length := Nat.le_of_ble_eq_true rfl
theorem o4s_12 {z : Nat → Nat} {i5 i6 i7 i8 i9 i10 i11 i12 i13 v : Int32} : (O4 z i5 i6 i7 i8 i9 i10 i11 i12 i13).set 12 (.int v) = O4 z i5 i6 i7 i8 i9 i10 i11 v i13 := rfl
theorem o4x_13 {z : Nat → Nat} {i5 i6 i7 i8 i9 i10 i11 i12 i13 : Int32} : (O4 z i5 i6 i7 i8 i9 i10 i11 i12 i13)[13]? = some (.int i13) := rfl
theorem o4l_13 {z : Nat → Nat} {i5 i6 i7 i8 i9 i10 i11 i12 i13 : Int32} : 13 < (O4 z i5 i6 i7 i8 i9 i10 i11 i12 i13).length := Nat.le_of_ble_eq_true rfl
theorem o4s_13 {z : Nat → Nat} {i5 i6 i7 i8 i9 i10 i11 i12 i13 v : Int32} : (O4 z i5 i6 i7 i8 i9 i10 i11 i12 i13).set 13 (.int v) = O4 z i5 i6 i7 i8 i9 i10 i11 i12 v := rfl
