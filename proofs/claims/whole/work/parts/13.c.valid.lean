/-! METHODS as relations, and their contracts -/
theorem x_sound2 {l : Launch} {D : va_G} {cA ad : Nat → Nat} {B : Nat} {cc : ByteArray} {cx : xC} {ini : Bool} {y : MethodName} {own : String} (ho : y.cls = own) (hy : plainName own = true) (hc : xv_cst own cx) (hs : xv_sta own ad cx) (hf : xv_fld own ini cx) (hn : xv_new own cx) (ha : xv_anew own cx) {Fc Lc : Nat} (hv : xv_cal l D cA ad B own Fc Lc cx) (hini : ini = true → y.name = "<init>") (rt : Option FieldType) (nL : Nat) : x_Met l D cA ad B y cc nL rt Fc Lc (x_ev B rt cx cc nL) := by
  subst ho
  exact x_sound hy hc hs hf hn ha hv hini rt nL
theorem pnX0 : plainName RX0 = true := by decide +kernel
theorem vcX0 {cx : xC} (h : cx.2.1 = fun k => csX0.lookup k) : xv_cst RX0 cx := x_cst_of csX0_ok h
theorem vsX0 {ad : Nat → Nat} {cx : xC} (h : cx.2.2.2.2.1 = fun k => (saX0.lookup k).map fun i => .ref (ad i)) : xv_sta RX0 ad cx := x_sta_of saX0_ok h
theorem vfX0 {cx : xC} (h : cx.1 = fun k => flX0.lookup k) : xv_fld RX0 false cx := x_fld_of flX0_ok h
theorem vfX0i {cx : xC} (h : cx.1 = fun k => flX0i.lookup k) : xv_fld RX0 true cx := x_fld_of flX0i_ok h
theorem vnX0 {cx : xC} (h : cx.2.2.1 = fun k => nwX0.lookup k) : xv_new RX0 cx := x_new_of nwX0_ok h
theorem vaX0 {cx : xC} (h : cx.2.2.2.1 = fun k => anX0.lookup k) : xv_anew RX0 cx := x_anew_of anX0_ok h
theorem pnX1 : plainName RX1 = true := by decide +kernel
theorem vcX1 {cx : xC} (h : cx.2.1 = fun k => csX1.lookup k) : xv_cst RX1 cx := x_cst_of csX1_ok h
theorem vsX1 {ad : Nat → Nat} {cx : xC} (h : cx.2.2.2.2.1 = fun k => (saX1.lookup k).map fun i => .ref (ad i)) : xv_sta RX1 ad cx := x_sta_of saX1_ok h
theorem vfX1 {cx : xC} (h : cx.1 = fun k => flX1.lookup k) : xv_fld RX1 false cx := x_fld_of flX1_ok h
theorem vfX1i {cx : xC} (h : cx.1 = fun k => flX1i.lookup k) : xv_fld RX1 true cx := x_fld_of flX1i_ok h
theorem vnX1 {cx : xC} (h : cx.2.2.1 = fun k => nwX1.lookup k) : xv_new RX1 cx := x_new_of nwX1_ok h
theorem vaX1 {cx : xC} (h : cx.2.2.2.1 = fun k => anX1.lookup k) : xv_anew RX1 cx := x_anew_of anX1_ok h
theorem pnX2 : plainName RX2 = true := by decide +kernel
theorem vcX2 {cx : xC} (h : cx.2.1 = fun k => csX2.lookup k) : xv_cst RX2 cx := x_cst_of csX2_ok h
theorem vsX2 {ad : Nat → Nat} {cx : xC} (h : cx.2.2.2.2.1 = fun k => (saX2.lookup k).map fun i => .ref (ad i)) : xv_sta RX2 ad cx := x_sta_of saX2_ok h
theorem vfX2 {cx : xC} (h : cx.1 = fun k => flX2.lookup k) : xv_fld RX2 false cx := x_fld_of flX2_ok h
theorem vfX2i {cx : xC} (h : cx.1 = fun k => flX2i.lookup k) : xv_fld RX2 true cx := x_fld_of flX2i_ok h
theorem vnX2 {cx : xC} (h : cx.2.2.1 = fun k => nwX2.lookup k) : xv_new RX2 cx := x_new_of nwX2_ok h
theorem vaX2 {cx : xC} (h : cx.2.2.2.1 = fun k => anX2.lookup k) : xv_anew RX2 cx := x_anew_of anX2_ok h
theorem pnX4 : plainName RX4 = true := by decide +kernel
theorem vcX4 {cx : xC} (h : cx.2.1 = fun k => csX4.lookup k) : xv_cst RX4 cx := x_cst_of csX4_ok h
theorem vsX4 {ad : Nat → Nat} {cx : xC} (h : cx.2.2.2.2.1 = fun k => (saX4.lookup k).map fun i => .ref (ad i)) : xv_sta RX4 ad cx := x_sta_of saX4_ok h
theorem vfX4 {cx : xC} (h : cx.1 = fun k => flX4.lookup k) : xv_fld RX4 false cx := x_fld_of flX4_ok h
theorem vfX4i {cx : xC} (h : cx.1 = fun k => flX4i.lookup k) : xv_fld RX4 true cx := x_fld_of flX4i_ok h
theorem vnX4 {cx : xC} (h : cx.2.2.1 = fun k => nwX4.lookup k) : xv_new RX4 cx := x_new_of nwX4_ok h
theorem vaX4 {cx : xC} (h : cx.2.2.2.1 = fun k => anX4.lookup k) : xv_anew RX4 cx := x_anew_of anX4_ok h
theorem pnX5 : plainName RX5 = true := by decide +kernel
theorem vcX5 {cx : xC} (h : cx.2.1 = fun k => csX5.lookup k) : xv_cst RX5 cx := x_cst_of csX5_ok h
theorem vsX5 {ad : Nat → Nat} {cx : xC} (h : cx.2.2.2.2.1 = fun k => (saX5.lookup k).map fun i => .ref (ad i)) : xv_sta RX5 ad cx := x_sta_of saX5_ok h
theorem vfX5 {cx : xC} (h : cx.1 = fun k => flX5.lookup k) : xv_fld RX5 false cx := x_fld_of flX5_ok h
theorem vfX5i {cx : xC} (h : cx.1 = fun k => flX5i.lookup k) : xv_fld RX5 true cx := x_fld_of flX5i_ok h
theorem vnX5 {cx : xC} (h : cx.2.2.1 = fun k => nwX5.lookup k) : xv_new RX5 cx := x_new_of nwX5_ok h
theorem vaX5 {cx : xC} (h : cx.2.2.2.1 = fun k => anX5.lookup k) : xv_anew RX5 cx := x_anew_of anX5_ok h
theorem pnX6 : plainName RX6 = true := by decide +kernel
theorem vcX6 {cx : xC} (h : cx.2.1 = fun k => csX6.lookup k) : xv_cst RX6 cx := x_cst_of csX6_ok h
theorem vsX6 {ad : Nat → Nat} {cx : xC} (h : cx.2.2.2.2.1 = fun k => (saX6.lookup k).map fun i => .ref (ad i)) : xv_sta RX6 ad cx := x_sta_of saX6_ok h
theorem vfX6 {cx : xC} (h : cx.1 = fun k => flX6.lookup k) : xv_fld RX6 false cx := x_fld_of flX6_ok h
theorem vfX6i {cx : xC} (h : cx.1 = fun k => flX6i.lookup k) : xv_fld RX6 true cx := x_fld_of flX6i_ok h
theorem vnX6 {cx : xC} (h : cx.2.2.1 = fun k => nwX6.lookup k) : xv_new RX6 cx := x_new_of nwX6_ok h
theorem vaX6 {cx : xC} (h : cx.2.2.2.1 = fun k => anX6.lookup k) : xv_anew RX6 cx := x_anew_of anX6_ok h
theorem pnX7 : plainName RX7 = true := by decide +kernel
theorem vcX7 {cx : xC} (h : cx.2.1 = fun k => csX7.lookup k) : xv_cst RX7 cx := x_cst_of csX7_ok h
theorem vsX7 {ad : Nat → Nat} {cx : xC} (h : cx.2.2.2.2.1 = fun k => (saX7.lookup k).map fun i => .ref (ad i)) : xv_sta RX7 ad cx := x_sta_of saX7_ok h
theorem vfX7 {cx : xC} (h : cx.1 = fun k => flX7.lookup k) : xv_fld RX7 false cx := x_fld_of flX7_ok h
theorem vfX7i {cx : xC} (h : cx.1 = fun k => flX7i.lookup k) : xv_fld RX7 true cx := x_fld_of flX7i_ok h
theorem vnX7 {cx : xC} (h : cx.2.2.1 = fun k => nwX7.lookup k) : xv_new RX7 cx := x_new_of nwX7_ok h
theorem vaX7 {cx : xC} (h : cx.2.2.2.1 = fun k => anX7.lookup k) : xv_anew RX7 cx := x_anew_of anX7_ok h
theorem pnX8 : plainName RX8 = true := by decide +kernel
theorem vcX8 {cx : xC} (h : cx.2.1 = fun k => csX8.lookup k) : xv_cst RX8 cx := x_cst_of csX8_ok h
theorem vsX8 {ad : Nat → Nat} {cx : xC} (h : cx.2.2.2.2.1 = fun k => (saX8.lookup k).map fun i => .ref (ad i)) : xv_sta RX8 ad cx := x_sta_of saX8_ok h
theorem vfX8 {cx : xC} (h : cx.1 = fun k => flX8.lookup k) : xv_fld RX8 false cx := x_fld_of flX8_ok h
theorem vfX8i {cx : xC} (h : cx.1 = fun k => flX8i.lookup k) : xv_fld RX8 true cx := x_fld_of flX8i_ok h
theorem vnX8 {cx : xC} (h : cx.2.2.1 = fun k => nwX8.lookup k) : xv_new RX8 cx := x_new_of nwX8_ok h
theorem vaX8 {cx : xC} (h : cx.2.2.2.1 = fun k => anX8.lookup k) : xv_anew RX8 cx := x_anew_of anX8_ok h
theorem pnL : plainName RL = true := by decide +kernel
theorem vcL {cx : xC} (h : cx.2.1 = fun k => csL.lookup k) : xv_cst RL cx := x_cst_of csL_ok h
theorem vsL {ad : Nat → Nat} {cx : xC} (h : cx.2.2.2.2.1 = fun k => (saL.lookup k).map fun i => .ref (ad i)) : xv_sta RL ad cx := x_sta_of saL_ok h
theorem vfL {cx : xC} (h : cx.1 = fun k => flL.lookup k) : xv_fld RL false cx := x_fld_of flL_ok h
theorem vfLi {cx : xC} (h : cx.1 = fun k => flLi.lookup k) : xv_fld RL true cx := x_fld_of flLi_ok h
theorem vnL {cx : xC} (h : cx.2.2.1 = fun k => nwL.lookup k) : xv_new RL cx := x_new_of nwL_ok h
theorem vaL {cx : xC} (h : cx.2.2.2.1 = fun k => anL.lookup k) : xv_anew RL cx := x_anew_of anL_ok h
