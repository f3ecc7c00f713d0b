theorem gv_eq {cT : Nat → ClassId} {D : va_G} {M : gx_M} {d mc ms k n pc : Nat} {loc st : List Value} {ws : va_W} {Q : va_W → Prop} (ws' : va_W) (h : ws = ws') (kk : Gv cT D M d mc ms k n pc loc st ws' Q) : Gv cT D M d mc ms k n pc loc st ws Q := h ▸ kk
theorem sl_one : ∀ av : List Value, av.all (fun v => v.category != 2) = true → gx_sl av = av.map some
  | [], _ => rfl
  | v :: av, h => by
    rw [List.all_cons, Bool.and_eq_true_iff] at h
    have h1 : ¬ v.category = 2 := by
      have := h.1
      simpa using this
    unfold gx_sl
    rw [List.flatMap_cons, if_neg h1]
    show some v :: gx_sl av = some v :: av.map some
    rw [sl_one av h.2]
theorem ent_one {nL : Nat} {av : List Value} (h : av.all (fun v => v.category != 2) = true) : ∀ (i : Nat) (v : Value), av[i]? = some v → (gx_ent nL av)[i]? = some (some v) := by
  intro i v hi
  unfold gx_ent
  rw [sl_one av h, List.getElem?_append_left (by rw [List.length_map]; exact (List.getElem?_eq_some_iff.mp hi).1), List.getElem?_map, hi]
  rfl
abbrev zA (cT : Nat → ClassId) (k N : Nat) : va_E := .inl (cT k, N, .inl (fun _ => 0))
theorem ob_X0 : Cond.methodLink RX0 3 objectInit ∈ gw_tbl := gw_in 192 (by decide +kernel) (by decide +kernel)
theorem nw_X0_9 : gx_Nw RX0 9 8 2 [.int 0, .null] := ⟨RX8, TX8, tyX8, rfl, inX8, tyX8_ok, gw_in 193 (by decide +kernel) (by decide +kernel), gw_in 194 (by decide +kernel) (by decide +kernel), gw_in 54 (by decide +kernel) (by decide +kernel), fun j hj => by rcases (show j = 0 ∨ j = 1 by omega) with rfl | rfl <;> rfl⟩
theorem ff_X0_14 : gx_FF RX0 14 0 0 (.object "GlassTax$Shelf") := ⟨RX0, TX0, 3, tyX0, rfl, by decide, inX0, gw_in 209 (by decide +kernel) (by decide +kernel), tyX0_ok, nmX0, rfl, rfl, by decide +kernel⟩
theorem ob_X1 : Cond.methodLink RX1 3 objectInit ∈ gw_tbl := gw_in 277 (by decide +kernel) (by decide +kernel)
theorem ff_X1_9 : gx_FF RX1 9 1 0 (.object "GlassTax$House") := ⟨RX1, TX1, 3, tyX1, rfl, by decide, inX1, gw_in 278 (by decide +kernel) (by decide +kernel), tyX1_ok, nmX1, rfl, rfl, by decide +kernel⟩
theorem ff_X1_15 : gx_FF RX1 15 1 1 (.object "GlassTax$Table") := ⟨RX1, TX1, 3, tyX1, rfl, by decide, inX1, gw_in 279 (by decide +kernel) (by decide +kernel), tyX1_ok, nmX1, rfl, rfl, by decide +kernel⟩
theorem ff_X1_19 : gx_FF RX1 19 1 2 (.object "GlassTax$Table") := ⟨RX1, TX1, 3, tyX1, rfl, by decide, inX1, gw_in 280 (by decide +kernel) (by decide +kernel), tyX1_ok, nmX1, rfl, rfl, by decide +kernel⟩
theorem ob_X2 : Cond.methodLink RX2 3 objectInit ∈ gw_tbl := gw_in 109 (by decide +kernel) (by decide +kernel)
theorem ff_X2_9 : gx_FF RX2 9 2 2 (.array .int) := ⟨RX2, TX2, 8, tyX2, rfl, by decide, inX2, gw_in 119 (by decide +kernel) (by decide +kernel), tyX2_ok, nmX2, rfl, rfl, by decide +kernel⟩
theorem ff_X2_15 : gx_FF RX2 15 2 3 (.array .int) := ⟨RX2, TX2, 8, tyX2, rfl, by decide, inX2, gw_in 122 (by decide +kernel) (by decide +kernel), tyX2_ok, nmX2, rfl, rfl, by decide +kernel⟩
theorem ff_X2_18 : gx_FF RX2 18 2 4 (.array .int) := ⟨RX2, TX2, 8, tyX2, rfl, by decide, inX2, gw_in 124 (by decide +kernel) (by decide +kernel), tyX2_ok, nmX2, rfl, rfl, by decide +kernel⟩
theorem ff_X2_21 : gx_FF RX2 21 2 5 (.array .int) := ⟨RX2, TX2, 8, tyX2, rfl, by decide, inX2, gw_in 127 (by decide +kernel) (by decide +kernel), tyX2_ok, nmX2, rfl, rfl, by decide +kernel⟩
theorem ff_X2_24 : gx_FF RX2 24 2 6 (.array .int) := ⟨RX2, TX2, 8, tyX2, rfl, by decide, inX2, gw_in 129 (by decide +kernel) (by decide +kernel), tyX2_ok, nmX2, rfl, rfl, by decide +kernel⟩
theorem ff_X2_27 : gx_FF RX2 27 2 7 (.array .int) := ⟨RX2, TX2, 8, tyX2, rfl, by decide, inX2, gw_in 133 (by decide +kernel) (by decide +kernel), tyX2_ok, nmX2, rfl, rfl, by decide +kernel⟩
theorem ob_X3 : Cond.methodLink RX3 3 objectInit ∈ gw_tbl := gw_in 76 (by decide +kernel) (by decide +kernel)
theorem ff_X3_9 : gx_FF RX3 9 3 0 (.array .int) := ⟨RX3, TX3, 2, tyX3, rfl, by decide, inX3, gw_in 77 (by decide +kernel) (by decide +kernel), tyX3_ok, nmX3, rfl, rfl, by decide +kernel⟩
theorem ob_X4 : Cond.methodLink RX4 3 objectInit ∈ gw_tbl := gw_in 293 (by decide +kernel) (by decide +kernel)
theorem ff_X4_9 : gx_FF RX4 9 4 0 (.object "GlassTax$House") := ⟨RX4, TX4, 6, tyX4, rfl, by decide, inX4, gw_in 294 (by decide +kernel) (by decide +kernel), tyX4_ok, nmX4, rfl, rfl, by decide +kernel⟩
theorem ff_X4_15 : gx_FF RX4 15 4 1 (.object "GlassTax$Table") := ⟨RX4, TX4, 6, tyX4, rfl, by decide, inX4, gw_in 295 (by decide +kernel) (by decide +kernel), tyX4_ok, nmX4, rfl, rfl, by decide +kernel⟩
theorem ob_X5 : Cond.methodLink RX5 3 objectInit ∈ gw_tbl := gw_in 93 (by decide +kernel) (by decide +kernel)
theorem ob_X6 : Cond.methodLink RX6 3 objectInit ∈ gw_tbl := gw_in 247 (by decide +kernel) (by decide +kernel)
theorem ff_X6_9 : gx_FF RX6 9 6 3 (.array .int) := ⟨RX6, TX6, 7, tyX6, rfl, by decide, inX6, gw_in 251 (by decide +kernel) (by decide +kernel), tyX6_ok, nmX6, rfl, rfl, by decide +kernel⟩
theorem ff_X6_15 : gx_FF RX6 15 6 4 (.array .int) := ⟨RX6, TX6, 7, tyX6, rfl, by decide, inX6, gw_in 252 (by decide +kernel) (by decide +kernel), tyX6_ok, nmX6, rfl, rfl, by decide +kernel⟩
theorem ff_X6_18 : gx_FF RX6 18 6 0 (.object "GlassTax$House") := ⟨RX6, TX6, 7, tyX6, rfl, by decide, inX6, gw_in 248 (by decide +kernel) (by decide +kernel), tyX6_ok, nmX6, rfl, rfl, by decide +kernel⟩
theorem ff_X6_22 : gx_FF RX6 22 6 1 (.object "GlassTax$Table") := ⟨RX6, TX6, 7, tyX6, rfl, by decide, inX6, gw_in 249 (by decide +kernel) (by decide +kernel), tyX6_ok, nmX6, rfl, rfl, by decide +kernel⟩
theorem ff_X6_26 : gx_FF RX6 26 6 2 (.object "GlassTax$Table") := ⟨RX6, TX6, 7, tyX6, rfl, by decide, inX6, gw_in 250 (by decide +kernel) (by decide +kernel), tyX6_ok, nmX6, rfl, rfl, by decide +kernel⟩
theorem ob_X7 : Cond.methodLink RX7 3 objectInit ∈ gw_tbl := gw_in 227 (by decide +kernel) (by decide +kernel)
theorem ff_X7_9 : gx_FF RX7 9 7 0 (.array .int) := ⟨RX7, TX7, 4, tyX7, rfl, by decide, inX7, gw_in 228 (by decide +kernel) (by decide +kernel), tyX7_ok, nmX7, rfl, rfl, by decide +kernel⟩
theorem ff_X7_15 : gx_FF RX7 15 7 1 (.array .int) := ⟨RX7, TX7, 4, tyX7, rfl, by decide, inX7, gw_in 229 (by decide +kernel) (by decide +kernel), tyX7_ok, nmX7, rfl, rfl, by decide +kernel⟩
theorem ff_X7_18 : gx_FF RX7 18 7 2 (.array .int) := ⟨RX7, TX7, 4, tyX7, rfl, by decide, inX7, gw_in 230 (by decide +kernel) (by decide +kernel), tyX7_ok, nmX7, rfl, rfl, by decide +kernel⟩
theorem ob_X8 : Cond.methodLink RX8 3 objectInit ∈ gw_tbl := gw_in 198 (by decide +kernel) (by decide +kernel)
theorem ff_X8_15 : gx_FF RX8 15 8 0 .int := ⟨RX8, TX8, 2, tyX8, rfl, by decide, inX8, gw_in 202 (by decide +kernel) (by decide +kernel), tyX8_ok, nmX8, rfl, rfl, by decide +kernel⟩
theorem ff_X8_21 : gx_FF RX8 21 8 1 (.array .int) := ⟨RX8, TX8, 2, tyX8, rfl, by decide, inX8, gw_in 203 (by decide +kernel) (by decide +kernel), tyX8_ok, nmX8, rfl, rfl, by decide +kernel⟩
theorem ob_X9 : Cond.methodLink RX9 3 objectInit ∈ gw_tbl := gw_in 159 (by decide +kernel) (by decide +kernel)
theorem ff_X9_9 : gx_FF RX9 9 9 1 (.array .int) := ⟨RX9, TX9, 5, tyX9, rfl, by decide, inX9, gw_in 161 (by decide +kernel) (by decide +kernel), tyX9_ok, nmX9, rfl, rfl, by decide +kernel⟩
theorem ff_X9_15 : gx_FF RX9 15 9 2 (.array .int) := ⟨RX9, TX9, 5, tyX9, rfl, by decide, inX9, gw_in 166 (by decide +kernel) (by decide +kernel), tyX9_ok, nmX9, rfl, rfl, by decide +kernel⟩
theorem ff_X9_18 : gx_FF RX9 18 9 3 (.array .int) := ⟨RX9, TX9, 5, tyX9, rfl, by decide, inX9, gw_in 169 (by decide +kernel) (by decide +kernel), tyX9_ok, nmX9, rfl, rfl, by decide +kernel⟩
theorem ff_X9_21 : gx_FF RX9 21 9 0 (.object "GlassTax$House") := ⟨RX9, TX9, 5, tyX9, rfl, by decide, inX9, gw_in 160 (by decide +kernel) (by decide +kernel), tyX9_ok, nmX9, rfl, rfl, by decide +kernel⟩
theorem ob_X10 : Cond.methodLink RX10 3 objectInit ∈ gw_tbl := gw_in 68 (by decide +kernel) (by decide +kernel)
theorem nw_X10_9 : gx_Nw RX10 9 3 2 [.null, .int 0] := ⟨RX3, TX3, tyX3, rfl, inX3, tyX3_ok, gw_in 71 (by decide +kernel) (by decide +kernel), gw_in 72 (by decide +kernel) (by decide +kernel), gw_in 49 (by decide +kernel) (by decide +kernel), fun j hj => by rcases (show j = 0 ∨ j = 1 by omega) with rfl | rfl <;> rfl⟩
theorem ff_X10_12 : gx_FF RX10 12 10 0 (.object "GlassTax$Letters") := ⟨RX10, TX10, 15, tyX10, rfl, by decide, inX10, gw_in 315 (by decide +kernel) (by decide +kernel), tyX10_ok, nmX10, rfl, rfl, by decide +kernel⟩
theorem nw_X10_16 : gx_Nw RX10 16 5 3 [.int 0, .int 0, .int 0] := ⟨RX5, TX5, tyX5, rfl, inX5, tyX5_ok, gw_in 88 (by decide +kernel) (by decide +kernel), gw_in 89 (by decide +kernel) (by decide +kernel), gw_in 50 (by decide +kernel) (by decide +kernel), fun j hj => by rcases (show j = 0 ∨ j = 1 ∨ j = 2 by omega) with rfl | rfl | rfl <;> rfl⟩
theorem ff_X10_19 : gx_FF RX10 19 10 1 (.object "GlassTax$Reader") := ⟨RX10, TX10, 15, tyX10, rfl, by decide, inX10, gw_in 316 (by decide +kernel) (by decide +kernel), tyX10_ok, nmX10, rfl, rfl, by decide +kernel⟩
theorem nw_X10_23 : gx_Nw RX10 23 2 8 [.int 0, .int 0, .null, .null, .null, .null, .null, .null] := ⟨RX2, TX2, tyX2, rfl, inX2, tyX2_ok, gw_in 104 (by decide +kernel) (by decide +kernel), gw_in 105 (by decide +kernel) (by decide +kernel), gw_in 51 (by decide +kernel) (by decide +kernel), fun j hj => by rcases (show j = 0 ∨ j = 1 ∨ j = 2 ∨ j = 3 ∨ j = 4 ∨ j = 5 ∨ j = 6 ∨ j = 7 by omega) with rfl | rfl | rfl | rfl | rfl | rfl | rfl | rfl <;> rfl⟩
theorem ff_X10_26 : gx_FF RX10 26 10 2 (.object "GlassTax$House") := ⟨RX10, TX10, 15, tyX10, rfl, by decide, inX10, gw_in 317 (by decide +kernel) (by decide +kernel), tyX10_ok, nmX10, rfl, rfl, by decide +kernel⟩
theorem ff_X10_30 : gx_FF RX10 30 10 3 (.object "GlassTax$House") := ⟨RX10, TX10, 15, tyX10, rfl, by decide, inX10, gw_in 318 (by decide +kernel) (by decide +kernel), tyX10_ok, nmX10, rfl, rfl, by decide +kernel⟩
theorem nw_X10_33 : gx_Nw RX10 33 9 5 [.null, .null, .null, .null, .int 0] := ⟨RX9, TX9, tyX9, rfl, inX9, tyX9_ok, gw_in 154 (by decide +kernel) (by decide +kernel), gw_in 155 (by decide +kernel) (by decide +kernel), gw_in 52 (by decide +kernel) (by decide +kernel), fun j hj => by rcases (show j = 0 ∨ j = 1 ∨ j = 2 ∨ j = 3 ∨ j = 4 by omega) with rfl | rfl | rfl | rfl | rfl <;> rfl⟩
theorem ff_X10_38 : gx_FF RX10 38 10 4 (.object "GlassTax$Table") := ⟨RX10, TX10, 15, tyX10, rfl, by decide, inX10, gw_in 319 (by decide +kernel) (by decide +kernel), tyX10_ok, nmX10, rfl, rfl, by decide +kernel⟩
theorem ff_X10_42 : gx_FF RX10 42 10 5 (.object "GlassTax$Table") := ⟨RX10, TX10, 15, tyX10, rfl, by decide, inX10, gw_in 320 (by decide +kernel) (by decide +kernel), tyX10_ok, nmX10, rfl, rfl, by decide +kernel⟩
theorem ff_X10_45 : gx_FF RX10 45 10 6 (.object "GlassTax$Table") := ⟨RX10, TX10, 15, tyX10, rfl, by decide, inX10, gw_in 321 (by decide +kernel) (by decide +kernel), tyX10_ok, nmX10, rfl, rfl, by decide +kernel⟩
theorem nw_X10_48 : gx_Nw RX10 48 0 3 [.null, .int 0, .int 0] := ⟨RX0, TX0, tyX0, rfl, inX0, tyX0_ok, gw_in 187 (by decide +kernel) (by decide +kernel), gw_in 188 (by decide +kernel) (by decide +kernel), gw_in 53 (by decide +kernel) (by decide +kernel), fun j hj => by rcases (show j = 0 ∨ j = 1 ∨ j = 2 by omega) with rfl | rfl | rfl <;> rfl⟩
theorem ff_X10_51 : gx_FF RX10 51 10 7 (.object "GlassTax$Acts") := ⟨RX10, TX10, 15, tyX10, rfl, by decide, inX10, gw_in 322 (by decide +kernel) (by decide +kernel), tyX10_ok, nmX10, rfl, rfl, by decide +kernel⟩
theorem nw_X10_55 : gx_Nw RX10 55 8 2 [.int 0, .null] := ⟨RX8, TX8, tyX8, rfl, inX8, tyX8_ok, gw_in 220 (by decide +kernel) (by decide +kernel), gw_in 194 (by decide +kernel) (by decide +kernel), gw_in 54 (by decide +kernel) (by decide +kernel), fun j hj => by rcases (show j = 0 ∨ j = 1 by omega) with rfl | rfl <;> rfl⟩
theorem ff_X10_60 : gx_FF RX10 60 10 8 (.object "GlassTax$Shelf") := ⟨RX10, TX10, 15, tyX10, rfl, by decide, inX10, gw_in 323 (by decide +kernel) (by decide +kernel), tyX10_ok, nmX10, rfl, rfl, by decide +kernel⟩
theorem nw_X10_64 : gx_Nw RX10 64 7 4 [.null, .null, .null, .int 0] := ⟨RX7, TX7, tyX7, rfl, inX7, tyX7_ok, gw_in 222 (by decide +kernel) (by decide +kernel), gw_in 223 (by decide +kernel) (by decide +kernel), gw_in 56 (by decide +kernel) (by decide +kernel), fun j hj => by rcases (show j = 0 ∨ j = 1 ∨ j = 2 ∨ j = 3 by omega) with rfl | rfl | rfl | rfl <;> rfl⟩
theorem ff_X10_67 : gx_FF RX10 67 10 10 (.object "GlassTax$Seen") := ⟨RX10, TX10, 15, tyX10, rfl, by decide, inX10, gw_in 325 (by decide +kernel) (by decide +kernel), tyX10_ok, nmX10, rfl, rfl, by decide +kernel⟩
theorem nw_X10_71 : gx_Nw RX10 71 6 7 [.null, .null, .null, .null, .null, .int 0, .int 0] := ⟨RX6, TX6, tyX6, rfl, inX6, tyX6_ok, gw_in 242 (by decide +kernel) (by decide +kernel), gw_in 243 (by decide +kernel) (by decide +kernel), gw_in 57 (by decide +kernel) (by decide +kernel), fun j hj => by rcases (show j = 0 ∨ j = 1 ∨ j = 2 ∨ j = 3 ∨ j = 4 ∨ j = 5 ∨ j = 6 by omega) with rfl | rfl | rfl | rfl | rfl | rfl | rfl <;> rfl⟩
theorem ff_X10_76 : gx_FF RX10 76 10 11 (.object "GlassTax$Search") := ⟨RX10, TX10, 15, tyX10, rfl, by decide, inX10, gw_in 326 (by decide +kernel) (by decide +kernel), tyX10_ok, nmX10, rfl, rfl, by decide +kernel⟩
theorem nw_X10_80 : gx_Nw RX10 80 1 3 [.null, .null, .null] := ⟨RX1, TX1, tyX1, rfl, inX1, tyX1_ok, gw_in 272 (by decide +kernel) (by decide +kernel), gw_in 273 (by decide +kernel) (by decide +kernel), gw_in 58 (by decide +kernel) (by decide +kernel), fun j hj => by rcases (show j = 0 ∨ j = 1 ∨ j = 2 by omega) with rfl | rfl | rfl <;> rfl⟩
theorem ff_X10_83 : gx_FF RX10 83 10 12 (.object "GlassTax$Chances") := ⟨RX10, TX10, 15, tyX10, rfl, by decide, inX10, gw_in 327 (by decide +kernel) (by decide +kernel), tyX10_ok, nmX10, rfl, rfl, by decide +kernel⟩
theorem nw_X10_87 : gx_Nw RX10 87 4 6 [.null, .null, .int 0, .int 0, .int 0, .int 0] := ⟨RX4, TX4, tyX4, rfl, inX4, tyX4_ok, gw_in 288 (by decide +kernel) (by decide +kernel), gw_in 289 (by decide +kernel) (by decide +kernel), gw_in 59 (by decide +kernel) (by decide +kernel), fun j hj => by rcases (show j = 0 ∨ j = 1 ∨ j = 2 ∨ j = 3 ∨ j = 4 ∨ j = 5 by omega) with rfl | rfl | rfl | rfl | rfl | rfl <;> rfl⟩
theorem ff_X10_92 : gx_FF RX10 92 10 13 (.object "GlassTax$Pair") := ⟨RX10, TX10, 15, tyX10, rfl, by decide, inX10, gw_in 328 (by decide +kernel) (by decide +kernel), tyX10_ok, nmX10, rfl, rfl, by decide +kernel⟩
theorem ob_X11 : Cond.methodLink RX11 1 objectInit ∈ gw_tbl := gw_in 821 (by decide +kernel) (by decide +kernel)
theorem ff_X11_7 : gx_FF RX11 7 11 2 (.array .int) := ⟨RX11, TX11, 26, tyX11, rfl, by decide, inX11, gw_in 824 (by decide +kernel) (by decide +kernel), tyX11_ok, nmX11, rfl, rfl, by decide +kernel⟩
theorem ff_X11_13 : gx_FF RX11 13 11 3 (.array .int) := ⟨RX11, TX11, 26, tyX11, rfl, by decide, inX11, gw_in 825 (by decide +kernel) (by decide +kernel), tyX11_ok, nmX11, rfl, rfl, by decide +kernel⟩
theorem ff_X11_16 : gx_FF RX11 16 11 4 (.array .int) := ⟨RX11, TX11, 26, tyX11, rfl, by decide, inX11, gw_in 826 (by decide +kernel) (by decide +kernel), tyX11_ok, nmX11, rfl, rfl, by decide +kernel⟩
theorem ff_X11_19 : gx_FF RX11 19 11 5 (.array .int) := ⟨RX11, TX11, 26, tyX11, rfl, by decide, inX11, gw_in 827 (by decide +kernel) (by decide +kernel), tyX11_ok, nmX11, rfl, rfl, by decide +kernel⟩
theorem ff_X11_22 : gx_FF RX11 22 11 6 (.array .int) := ⟨RX11, TX11, 26, tyX11, rfl, by decide, inX11, gw_in 828 (by decide +kernel) (by decide +kernel), tyX11_ok, nmX11, rfl, rfl, by decide +kernel⟩
theorem ff_X11_25 : gx_FF RX11 25 11 7 (.array .int) := ⟨RX11, TX11, 26, tyX11, rfl, by decide, inX11, gw_in 829 (by decide +kernel) (by decide +kernel), tyX11_ok, nmX11, rfl, rfl, by decide +kernel⟩
theorem ff_X11_28 : gx_FF RX11 28 11 8 (.array .int) := ⟨RX11, TX11, 26, tyX11, rfl, by decide, inX11, gw_in 830 (by decide +kernel) (by decide +kernel), tyX11_ok, nmX11, rfl, rfl, by decide +kernel⟩
theorem ff_X11_31 : gx_FF RX11 31 11 9 (.array .int) := ⟨RX11, TX11, 26, tyX11, rfl, by decide, inX11, gw_in 831 (by decide +kernel) (by decide +kernel), tyX11_ok, nmX11, rfl, rfl, by decide +kernel⟩
theorem ff_X11_34 : gx_FF RX11 34 11 12 (.array .int) := ⟨RX11, TX11, 26, tyX11, rfl, by decide, inX11, gw_in 834 (by decide +kernel) (by decide +kernel), tyX11_ok, nmX11, rfl, rfl, by decide +kernel⟩
theorem ff_X11_37 : gx_FF RX11 37 11 18 (.array .int) := ⟨RX11, TX11, 26, tyX11, rfl, by decide, inX11, gw_in 840 (by decide +kernel) (by decide +kernel), tyX11_ok, nmX11, rfl, rfl, by decide +kernel⟩
theorem ff_X11_40 : gx_FF RX11 40 11 20 (.array .int) := ⟨RX11, TX11, 26, tyX11, rfl, by decide, inX11, gw_in 842 (by decide +kernel) (by decide +kernel), tyX11_ok, nmX11, rfl, rfl, by decide +kernel⟩
theorem ff_X11_43 : gx_FF RX11 43 11 21 (.array .int) := ⟨RX11, TX11, 26, tyX11, rfl, by decide, inX11, gw_in 843 (by decide +kernel) (by decide +kernel), tyX11_ok, nmX11, rfl, rfl, by decide +kernel⟩
theorem ff_X11_46 : gx_FF RX11 46 11 22 (.array .int) := ⟨RX11, TX11, 26, tyX11, rfl, by decide, inX11, gw_in 844 (by decide +kernel) (by decide +kernel), tyX11_ok, nmX11, rfl, rfl, by decide +kernel⟩
theorem ff_X11_49 : gx_FF RX11 49 11 24 (.array .boolean) := ⟨RX11, TX11, 26, tyX11, rfl, by decide, inX11, gw_in 846 (by decide +kernel) (by decide +kernel), tyX11_ok, nmX11, rfl, rfl, by decide +kernel⟩
theorem ff_X11_53 : gx_FF RX11 53 11 25 (.array .int) := ⟨RX11, TX11, 26, tyX11, rfl, by decide, inX11, gw_in 847 (by decide +kernel) (by decide +kernel), tyX11_ok, nmX11, rfl, rfl, by decide +kernel⟩
theorem mi_X0 : gx_MI mX0_init 0 := ⟨gw_in 190 (by decide +kernel) (by decide +kernel), gw_in 53 (by decide +kernel) (by decide +kernel), gw_in 191 (by decide +kernel) (by decide +kernel), by decide +kernel, by decide +kernel, by decide +kernel, by decide, rfl, rfl⟩
theorem mi_X1 : gx_MI mX1_init 3 := ⟨gw_in 275 (by decide +kernel) (by decide +kernel), gw_in 58 (by decide +kernel) (by decide +kernel), gw_in 276 (by decide +kernel) (by decide +kernel), by decide +kernel, by decide +kernel, by decide +kernel, by decide, rfl, rfl⟩
theorem mi_X2 : gx_MI mX2_init 0 := ⟨gw_in 107 (by decide +kernel) (by decide +kernel), gw_in 51 (by decide +kernel) (by decide +kernel), gw_in 108 (by decide +kernel) (by decide +kernel), by decide +kernel, by decide +kernel, by decide +kernel, by decide, rfl, rfl⟩
theorem mi_X3 : gx_MI mX3_init 0 := ⟨gw_in 74 (by decide +kernel) (by decide +kernel), gw_in 49 (by decide +kernel) (by decide +kernel), gw_in 75 (by decide +kernel) (by decide +kernel), by decide +kernel, by decide +kernel, by decide +kernel, by decide, rfl, rfl⟩
theorem mi_X4 : gx_MI mX4_init 2 := ⟨gw_in 291 (by decide +kernel) (by decide +kernel), gw_in 59 (by decide +kernel) (by decide +kernel), gw_in 292 (by decide +kernel) (by decide +kernel), by decide +kernel, by decide +kernel, by decide +kernel, by decide, rfl, rfl⟩
theorem mi_X5 : gx_MI mX5_init 0 := ⟨gw_in 91 (by decide +kernel) (by decide +kernel), gw_in 50 (by decide +kernel) (by decide +kernel), gw_in 92 (by decide +kernel) (by decide +kernel), by decide +kernel, by decide +kernel, by decide +kernel, by decide, rfl, rfl⟩
theorem mi_X6 : gx_MI mX6_init 3 := ⟨gw_in 245 (by decide +kernel) (by decide +kernel), gw_in 57 (by decide +kernel) (by decide +kernel), gw_in 246 (by decide +kernel) (by decide +kernel), by decide +kernel, by decide +kernel, by decide +kernel, by decide, rfl, rfl⟩
theorem mi_X7 : gx_MI mX7_init 0 := ⟨gw_in 225 (by decide +kernel) (by decide +kernel), gw_in 56 (by decide +kernel) (by decide +kernel), gw_in 226 (by decide +kernel) (by decide +kernel), by decide +kernel, by decide +kernel, by decide +kernel, by decide, rfl, rfl⟩
theorem mi_X8 : gx_MI mX8_init 1 := ⟨gw_in 196 (by decide +kernel) (by decide +kernel), gw_in 54 (by decide +kernel) (by decide +kernel), gw_in 197 (by decide +kernel) (by decide +kernel), by decide +kernel, by decide +kernel, by decide +kernel, by decide, rfl, rfl⟩
theorem mi_X9 : gx_MI mX9_init 1 := ⟨gw_in 157 (by decide +kernel) (by decide +kernel), gw_in 52 (by decide +kernel) (by decide +kernel), gw_in 158 (by decide +kernel) (by decide +kernel), by decide +kernel, by decide +kernel, by decide +kernel, by decide, rfl, rfl⟩
theorem mi_X10 : gx_MI mX10_init 0 := ⟨gw_in 66 (by decide +kernel) (by decide +kernel), gw_in 48 (by decide +kernel) (by decide +kernel), gw_in 67 (by decide +kernel) (by decide +kernel), by decide +kernel, by decide +kernel, by decide +kernel, by decide, rfl, rfl⟩
theorem mi_X11 : gx_MI mX11_init 0 := ⟨gw_in 819 (by decide +kernel) (by decide +kernel), gw_in 60 (by decide +kernel) (by decide +kernel), gw_in 820 (by decide +kernel) (by decide +kernel), by decide +kernel, by decide +kernel, by decide +kernel, by decide, rfl, rfl⟩
theorem nw_L_7 : gx_Nw RL 7 10 15 [.null, .null, .null, .null, .null, .null, .null, .null, .null, .int 0, .null, .null, .null, .null, .long 0] := ⟨RX10, TX10, tyX10, rfl, inX10, tyX10_ok, gw_in 63 (by decide +kernel) (by decide +kernel), gw_in 64 (by decide +kernel) (by decide +kernel), gw_in 48 (by decide +kernel) (by decide +kernel), fun j hj => by rcases (show j = 0 ∨ j = 1 ∨ j = 2 ∨ j = 3 ∨ j = 4 ∨ j = 5 ∨ j = 6 ∨ j = 7 ∨ j = 8 ∨ j = 9 ∨ j = 10 ∨ j = 11 ∨ j = 12 ∨ j = 13 ∨ j = 14 by omega) with rfl | rfl | rfl | rfl | rfl | rfl | rfl | rfl | rfl | rfl | rfl | rfl | rfl | rfl | rfl <;> rfl⟩
theorem nw_L_10 : gx_Nw RL 10 11 26 [.int 0, .int 0, .null, .null, .null, .null, .null, .null, .null, .null, .int 0, .int 0, .null, .int 0, .int 0, .int 0, .int 0, .int 0, .null, .int 0, .null, .null, .null, .long 0, .null, .null] := ⟨RX11, TX11, tyX11, rfl, inX11, tyX11_ok, gw_in 816 (by decide +kernel) (by decide +kernel), gw_in 817 (by decide +kernel) (by decide +kernel), gw_in 60 (by decide +kernel) (by decide +kernel), fun j hj => by rcases (show j = 0 ∨ j = 1 ∨ j = 2 ∨ j = 3 ∨ j = 4 ∨ j = 5 ∨ j = 6 ∨ j = 7 ∨ j = 8 ∨ j = 9 ∨ j = 10 ∨ j = 11 ∨ j = 12 ∨ j = 13 ∨ j = 14 ∨ j = 15 ∨ j = 16 ∨ j = 17 ∨ j = 18 ∨ j = 19 ∨ j = 20 ∨ j = 21 ∨ j = 22 ∨ j = 23 ∨ j = 24 ∨ j = 25 by omega) with rfl | rfl | rfl | rfl | rfl | rfl | rfl | rfl | rfl | rfl | rfl | rfl | rfl | rfl | rfl | rfl | rfl | rfl | rfl | rfl | rfl | rfl | rfl | rfl | rfl | rfl <;> rfl⟩
def wX3 (cT : Nat → ClassId) (h0 : Nat) (u : Nat → Nat) : va_W := [(h0, .inr (3, [.ref (u 0), .int 0])), (u 0, zA cT 0 60)]
set_option maxRecDepth 10000 in
theorem kX3 (cT : Nat → ClassId) (D : va_G) (h0 : Nat) : Kt cT D 1 1 60 mX3_init h0 [] (.inr (3, [.null, .int 0])) (fun w => ∃ u : Nat → Nat, w = wX3 cT h0 u ) := by
  refine kt_intro (by decide) rfl (Nat.le_of_ble_eq_true rfl) (ent_one rfl) ?_
  refine gv_ald 0 dX3_init_0 rfl rfl ?_
  refine gv_obj dX3_init_1 ob_X3 (by decide) (Nat.le_of_ble_eq_true rfl) ?_
  refine gv_ald 0 dX3_init_4 rfl rfl ?_
  refine gv_bi (v := 60) dX3_init_5 (by decide) ?_
  refine gv_newi 60 (by decide) (by decide) (by decide) (by decide) dX3_init_7 (fun q1 => ?_)
  refine gv_eq ((h0, .inr (3, [.null, .int 0])) :: [(q1, zA cT 0 60)]) rfl ?_
  refine gv_putf (q0 := 0) dX3_init_9 ff_X3_9 rfl (Nat.le_of_ble_eq_true rfl) rfl rfl ?_
  refine gv_eq ((h0, .inr (3, [.ref q1, .int 0])) :: [(q1, zA cT 0 60)]) rfl ?_
  exact gv_ret dX3_init_12 rfl (by decide) (by decide) ⟨fun k => [q1].getD k 0, rfl⟩
def wX5 (cT : Nat → ClassId) (h0 : Nat) (u : Nat → Nat) : va_W := [(h0, .inr (5, [.int 0, .int 0, .int 0]))]
set_option maxRecDepth 10000 in
theorem kX5 (cT : Nat → ClassId) (D : va_G) (h0 : Nat) : Kt cT D 1 0 0 mX5_init h0 [] (.inr (5, [.int 0, .int 0, .int 0])) (fun w => ∃ u : Nat → Nat, w = wX5 cT h0 u ) := by
  refine kt_intro (by decide) rfl (Nat.le_of_ble_eq_true rfl) (ent_one rfl) ?_
  refine gv_ald 0 dX5_init_0 rfl rfl ?_
  refine gv_obj dX5_init_1 ob_X5 (by decide) (Nat.le_of_ble_eq_true rfl) ?_
  exact gv_ret dX5_init_4 rfl (by decide) (by decide) ⟨fun k => [].getD k 0, rfl⟩
def wX2 (cT : Nat → ClassId) (h0 : Nat) (u : Nat → Nat) : va_W := [(h0, .inr (2, [.int 0, .int 0, .ref (u 0), .ref (u 1), .ref (u 2), .ref (u 3), .ref (u 4), .ref (u 5)])), (u 0, zA cT 0 5), (u 1, zA cT 0 5), (u 2, zA cT 0 5), (u 3, zA cT 0 4), (u 4, zA cT 0 4), (u 5, zA cT 0 4)]
set_option maxRecDepth 10000 in
theorem kX2 (cT : Nat → ClassId) (D : va_G) (h0 : Nat) : Kt cT D 1 6 27 mX2_init h0 [] (.inr (2, [.int 0, .int 0, .null, .null, .null, .null, .null, .null])) (fun w => ∃ u : Nat → Nat, w = wX2 cT h0 u ) := by
  refine kt_intro (by decide) rfl (Nat.le_of_ble_eq_true rfl) (ent_one rfl) ?_
  refine gv_ald 0 dX2_init_0 rfl rfl ?_
  refine gv_obj dX2_init_1 ob_X2 (by decide) (Nat.le_of_ble_eq_true rfl) ?_
  refine gv_ald 0 dX2_init_4 rfl rfl ?_
  refine gv_ic (v := 5) dX2_init_5 (by decide) ?_
  refine gv_newi 5 (by decide) (by decide) (by decide) (by decide) dX2_init_6 (fun q1 => ?_)
  refine gv_eq ((h0, .inr (2, [.int 0, .int 0, .null, .null, .null, .null, .null, .null])) :: [(q1, zA cT 0 5)]) rfl ?_
  refine gv_putf (q0 := 0) dX2_init_8 ff_X2_9 rfl (Nat.le_of_ble_eq_true rfl) rfl rfl ?_
  refine gv_eq ((h0, .inr (2, [.int 0, .int 0, .ref q1, .null, .null, .null, .null, .null])) :: [(q1, zA cT 0 5)]) rfl ?_
  refine gv_ald 0 dX2_init_11 rfl rfl ?_
  refine gv_ic (v := 5) dX2_init_12 (by decide) ?_
  refine gv_newi 5 (by decide) (by decide) (by decide) (by decide) dX2_init_13 (fun q2 => ?_)
  refine gv_eq ((h0, .inr (2, [.int 0, .int 0, .ref q1, .null, .null, .null, .null, .null])) :: [(q1, zA cT 0 5)] ++ [(q2, zA cT 0 5)]) rfl ?_
  refine gv_putf (q0 := 0) dX2_init_15 ff_X2_15 rfl (Nat.le_of_ble_eq_true rfl) rfl rfl ?_
  refine gv_eq ((h0, .inr (2, [.int 0, .int 0, .ref q1, .ref q2, .null, .null, .null, .null])) :: [(q1, zA cT 0 5)] ++ [(q2, zA cT 0 5)]) rfl ?_
  refine gv_ald 0 dX2_init_18 rfl rfl ?_
  refine gv_ic (v := 5) dX2_init_19 (by decide) ?_
  refine gv_newi 5 (by decide) (by decide) (by decide) (by decide) dX2_init_20 (fun q3 => ?_)
  refine gv_eq ((h0, .inr (2, [.int 0, .int 0, .ref q1, .ref q2, .null, .null, .null, .null])) :: [(q1, zA cT 0 5)] ++ [(q2, zA cT 0 5)] ++ [(q3, zA cT 0 5)]) rfl ?_
  refine gv_putf (q0 := 0) dX2_init_22 ff_X2_18 rfl (Nat.le_of_ble_eq_true rfl) rfl rfl ?_
  refine gv_eq ((h0, .inr (2, [.int 0, .int 0, .ref q1, .ref q2, .ref q3, .null, .null, .null])) :: [(q1, zA cT 0 5)] ++ [(q2, zA cT 0 5)] ++ [(q3, zA cT 0 5)]) rfl ?_
  refine gv_ald 0 dX2_init_25 rfl rfl ?_
  refine gv_ic (v := 4) dX2_init_26 (by decide) ?_
  refine gv_newi 4 (by decide) (by decide) (by decide) (by decide) dX2_init_27 (fun q4 => ?_)
  refine gv_eq ((h0, .inr (2, [.int 0, .int 0, .ref q1, .ref q2, .ref q3, .null, .null, .null])) :: [(q1, zA cT 0 5)] ++ [(q2, zA cT 0 5)] ++ [(q3, zA cT 0 5)] ++ [(q4, zA cT 0 4)]) rfl ?_
  refine gv_putf (q0 := 0) dX2_init_29 ff_X2_21 rfl (Nat.le_of_ble_eq_true rfl) rfl rfl ?_
  refine gv_eq ((h0, .inr (2, [.int 0, .int 0, .ref q1, .ref q2, .ref q3, .ref q4, .null, .null])) :: [(q1, zA cT 0 5)] ++ [(q2, zA cT 0 5)] ++ [(q3, zA cT 0 5)] ++ [(q4, zA cT 0 4)]) rfl ?_
  refine gv_ald 0 dX2_init_32 rfl rfl ?_
  refine gv_ic (v := 4) dX2_init_33 (by decide) ?_
  refine gv_newi 4 (by decide) (by decide) (by decide) (by decide) dX2_init_34 (fun q5 => ?_)
  refine gv_eq ((h0, .inr (2, [.int 0, .int 0, .ref q1, .ref q2, .ref q3, .ref q4, .null, .null])) :: [(q1, zA cT 0 5)] ++ [(q2, zA cT 0 5)] ++ [(q3, zA cT 0 5)] ++ [(q4, zA cT 0 4)] ++ [(q5, zA cT 0 4)]) rfl ?_
  refine gv_putf (q0 := 0) dX2_init_36 ff_X2_24 rfl (Nat.le_of_ble_eq_true rfl) rfl rfl ?_
  refine gv_eq ((h0, .inr (2, [.int 0, .int 0, .ref q1, .ref q2, .ref q3, .ref q4, .ref q5, .null])) :: [(q1, zA cT 0 5)] ++ [(q2, zA cT 0 5)] ++ [(q3, zA cT 0 5)] ++ [(q4, zA cT 0 4)] ++ [(q5, zA cT 0 4)]) rfl ?_
  refine gv_ald 0 dX2_init_39 rfl rfl ?_
  refine gv_ic (v := 4) dX2_init_40 (by decide) ?_
  refine gv_newi 4 (by decide) (by decide) (by decide) (by decide) dX2_init_41 (fun q6 => ?_)
  refine gv_eq ((h0, .inr (2, [.int 0, .int 0, .ref q1, .ref q2, .ref q3, .ref q4, .ref q5, .null])) :: [(q1, zA cT 0 5)] ++ [(q2, zA cT 0 5)] ++ [(q3, zA cT 0 5)] ++ [(q4, zA cT 0 4)] ++ [(q5, zA cT 0 4)] ++ [(q6, zA cT 0 4)]) rfl ?_
  refine gv_putf (q0 := 0) dX2_init_43 ff_X2_27 rfl (Nat.le_of_ble_eq_true rfl) rfl rfl ?_
  refine gv_eq ((h0, .inr (2, [.int 0, .int 0, .ref q1, .ref q2, .ref q3, .ref q4, .ref q5, .ref q6])) :: [(q1, zA cT 0 5)] ++ [(q2, zA cT 0 5)] ++ [(q3, zA cT 0 5)] ++ [(q4, zA cT 0 4)] ++ [(q5, zA cT 0 4)] ++ [(q6, zA cT 0 4)]) rfl ?_
  exact gv_ret dX2_init_46 rfl (by decide) (by decide) ⟨fun k => [q1, q2, q3, q4, q5, q6].getD k 0, rfl⟩
def wX9 (cT : Nat → ClassId) (h0 : Nat) (u : Nat → Nat) (a1 : Nat) : va_W := [(h0, .inr (9, [.ref a1, .ref (u 0), .ref (u 1), .ref (u 2), .int 0])), (u 0, zA cT 0 5), (u 1, zA cT 0 5), (u 2, zA cT 0 4)]
set_option maxRecDepth 10000 in
theorem kX9 (cT : Nat → ClassId) (D : va_G) (h0 : Nat) (a1 : Nat) : Kt cT D 1 3 14 mX9_init h0 [.ref a1] (.inr (9, [.null, .null, .null, .null, .int 0])) (fun w => ∃ u : Nat → Nat, w = wX9 cT h0 u a1) := by
  refine kt_intro (by decide) rfl (Nat.le_of_ble_eq_true rfl) (ent_one rfl) ?_
  refine gv_ald 0 dX9_init_0 rfl rfl ?_
  refine gv_obj dX9_init_1 ob_X9 (by decide) (Nat.le_of_ble_eq_true rfl) ?_
  refine gv_ald 0 dX9_init_4 rfl rfl ?_
  refine gv_ic (v := 5) dX9_init_5 (by decide) ?_
  refine gv_newi 5 (by decide) (by decide) (by decide) (by decide) dX9_init_6 (fun q1 => ?_)
  refine gv_eq ((h0, .inr (9, [.null, .null, .null, .null, .int 0])) :: [(q1, zA cT 0 5)]) rfl ?_
  refine gv_putf (q0 := 0) dX9_init_8 ff_X9_9 rfl (Nat.le_of_ble_eq_true rfl) rfl rfl ?_
  refine gv_eq ((h0, .inr (9, [.null, .ref q1, .null, .null, .int 0])) :: [(q1, zA cT 0 5)]) rfl ?_
  refine gv_ald 0 dX9_init_11 rfl rfl ?_
  refine gv_ic (v := 5) dX9_init_12 (by decide) ?_
  refine gv_newi 5 (by decide) (by decide) (by decide) (by decide) dX9_init_13 (fun q2 => ?_)
  refine gv_eq ((h0, .inr (9, [.null, .ref q1, .null, .null, .int 0])) :: [(q1, zA cT 0 5)] ++ [(q2, zA cT 0 5)]) rfl ?_
  refine gv_putf (q0 := 0) dX9_init_15 ff_X9_15 rfl (Nat.le_of_ble_eq_true rfl) rfl rfl ?_
  refine gv_eq ((h0, .inr (9, [.null, .ref q1, .ref q2, .null, .int 0])) :: [(q1, zA cT 0 5)] ++ [(q2, zA cT 0 5)]) rfl ?_
  refine gv_ald 0 dX9_init_18 rfl rfl ?_
  refine gv_ic (v := 4) dX9_init_19 (by decide) ?_
  refine gv_newi 4 (by decide) (by decide) (by decide) (by decide) dX9_init_20 (fun q3 => ?_)
  refine gv_eq ((h0, .inr (9, [.null, .ref q1, .ref q2, .null, .int 0])) :: [(q1, zA cT 0 5)] ++ [(q2, zA cT 0 5)] ++ [(q3, zA cT 0 4)]) rfl ?_
  refine gv_putf (q0 := 0) dX9_init_22 ff_X9_18 rfl (Nat.le_of_ble_eq_true rfl) rfl rfl ?_
  refine gv_eq ((h0, .inr (9, [.null, .ref q1, .ref q2, .ref q3, .int 0])) :: [(q1, zA cT 0 5)] ++ [(q2, zA cT 0 5)] ++ [(q3, zA cT 0 4)]) rfl ?_
  refine gv_ald 0 dX9_init_25 rfl rfl ?_
  refine gv_ald 1 dX9_init_26 rfl rfl ?_
  refine gv_putf (q0 := 0) dX9_init_27 ff_X9_21 rfl (Nat.le_of_ble_eq_true rfl) rfl rfl ?_
  refine gv_eq ((h0, .inr (9, [.ref a1, .ref q1, .ref q2, .ref q3, .int 0])) :: [(q1, zA cT 0 5)] ++ [(q2, zA cT 0 5)] ++ [(q3, zA cT 0 4)]) rfl ?_
  exact gv_ret dX9_init_30 rfl (by decide) (by decide) ⟨fun k => [q1, q2, q3].getD k 0, rfl⟩
def wX8_14 (cT : Nat → ClassId) (h0 : Nat) (u : Nat → Nat) : va_W := [(h0, .inr (8, [.int 14, .ref (u 0)])), (u 0, zA cT 0 210)]
set_option maxRecDepth 10000 in
theorem kX8_14 (cT : Nat → ClassId) (D : va_G) (h0 : Nat) : Kt cT D 1 1 210 mX8_init h0 [.int 14] (.inr (8, [.int 0, .null])) (fun w => ∃ u : Nat → Nat, w = wX8_14 cT h0 u ) := by
  refine kt_intro (by decide) rfl (Nat.le_of_ble_eq_true rfl) (ent_one rfl) ?_
  refine gv_ald 0 dX8_init_0 rfl rfl ?_
  refine gv_obj dX8_init_1 ob_X8 (by decide) (Nat.le_of_ble_eq_true rfl) ?_
  refine gv_ald 0 dX8_init_4 rfl rfl ?_
  refine gv_ic (v := 0) dX8_init_5 (by decide) ?_
  refine gv_ild 1 dX8_init_6 rfl rfl ?_
  refine gv_max dX8_init_7 lk_X8_9 (by decide) (by decide) (by decide) (Nat.le_of_ble_eq_true rfl) ?_
  rw [show (if (0 : Int32) < 14 then (14 : Int32) else 0) = 14 from by decide]
  refine gv_putf (q0 := 0) dX8_init_10 ff_X8_15 rfl (Nat.le_of_ble_eq_true rfl) rfl rfl ?_
  refine gv_eq ((h0, .inr (8, [.int 14, .null])) :: []) rfl ?_
  refine gv_ald 0 dX8_init_13 rfl rfl ?_
  refine gv_ald 0 dX8_init_14 rfl rfl ?_
  refine gv_get (q0 := 0) dX8_init_15 fl_X8_15 rfl rfl ?_
  refine gv_bi (v := 15) dX8_init_18 (by decide) ?_
  refine gv_mul dX8_init_20 ?_
  refine gv_newi 210 (by decide) (by decide) (by decide) (by decide) dX8_init_21 (fun q1 => ?_)
  refine gv_eq ((h0, .inr (8, [.int 14, .null])) :: [(q1, zA cT 0 210)]) rfl ?_
  refine gv_putf (q0 := 0) dX8_init_23 ff_X8_21 rfl (Nat.le_of_ble_eq_true rfl) rfl rfl ?_
  refine gv_eq ((h0, .inr (8, [.int 14, .ref q1])) :: [(q1, zA cT 0 210)]) rfl ?_
  exact gv_ret dX8_init_26 rfl (by decide) (by decide) ⟨fun k => [q1].getD k 0, rfl⟩
def wX8_2 (cT : Nat → ClassId) (h0 : Nat) (u : Nat → Nat) : va_W := [(h0, .inr (8, [.int 2, .ref (u 0)])), (u 0, zA cT 0 30)]
set_option maxRecDepth 10000 in
theorem kX8_2 (cT : Nat → ClassId) (D : va_G) (h0 : Nat) : Kt cT D 1 1 30 mX8_init h0 [.int 2] (.inr (8, [.int 0, .null])) (fun w => ∃ u : Nat → Nat, w = wX8_2 cT h0 u ) := by
  refine kt_intro (by decide) rfl (Nat.le_of_ble_eq_true rfl) (ent_one rfl) ?_
  refine gv_ald 0 dX8_init_0 rfl rfl ?_
  refine gv_obj dX8_init_1 ob_X8 (by decide) (Nat.le_of_ble_eq_true rfl) ?_
  refine gv_ald 0 dX8_init_4 rfl rfl ?_
  refine gv_ic (v := 0) dX8_init_5 (by decide) ?_
  refine gv_ild 1 dX8_init_6 rfl rfl ?_
  refine gv_max dX8_init_7 lk_X8_9 (by decide) (by decide) (by decide) (Nat.le_of_ble_eq_true rfl) ?_
  rw [show (if (0 : Int32) < 2 then (2 : Int32) else 0) = 2 from by decide]
  refine gv_putf (q0 := 0) dX8_init_10 ff_X8_15 rfl (Nat.le_of_ble_eq_true rfl) rfl rfl ?_
  refine gv_eq ((h0, .inr (8, [.int 2, .null])) :: []) rfl ?_
  refine gv_ald 0 dX8_init_13 rfl rfl ?_
  refine gv_ald 0 dX8_init_14 rfl rfl ?_
  refine gv_get (q0 := 0) dX8_init_15 fl_X8_15 rfl rfl ?_
  refine gv_bi (v := 15) dX8_init_18 (by decide) ?_
  refine gv_mul dX8_init_20 ?_
  refine gv_newi 30 (by decide) (by decide) (by decide) (by decide) dX8_init_21 (fun q1 => ?_)
  refine gv_eq ((h0, .inr (8, [.int 2, .null])) :: [(q1, zA cT 0 30)]) rfl ?_
  refine gv_putf (q0 := 0) dX8_init_23 ff_X8_21 rfl (Nat.le_of_ble_eq_true rfl) rfl rfl ?_
  refine gv_eq ((h0, .inr (8, [.int 2, .ref q1])) :: [(q1, zA cT 0 30)]) rfl ?_
  exact gv_ret dX8_init_26 rfl (by decide) (by decide) ⟨fun k => [q1].getD k 0, rfl⟩
def wX0 (cT : Nat → ClassId) (h0 : Nat) (u : Nat → Nat) : va_W := [(h0, .inr (0, [.ref (u 0), .int 0, .int 0])), (u 0, .inr (8, [.int 14, .ref (u 1)])), (u 1, zA cT 0 210)]
set_option maxRecDepth 10000 in
theorem kX0 (cT : Nat → ClassId) (D : va_G) (h0 : Nat) : Kt cT D 2 2 212 mX0_init h0 [] (.inr (0, [.null, .int 0, .int 0])) (fun w => ∃ u : Nat → Nat, w = wX0 cT h0 u ) := by
  refine kt_intro (by decide) rfl (Nat.le_of_ble_eq_true rfl) (ent_one rfl) ?_
  refine gv_ald 0 dX0_init_0 rfl rfl ?_
  refine gv_obj dX0_init_1 ob_X0 (by decide) (Nat.le_of_ble_eq_true rfl) ?_
  refine gv_ald 0 dX0_init_4 rfl rfl ?_
  refine gv_new nw_X0_9 (by decide) (by decide) dX0_init_5 (fun q1 => ?_)
  refine gv_dup dX0_init_8 rfl ?_
  refine gv_bi (v := 14) dX0_init_9 (by decide) ?_
  refine gv_call (M' := mX8_init) (ws := ((h0, .inr (0, [.null, .int 0, .int 0])) :: [])) (As := [.int 14]) (h := q1) (e0 := .inr (8, [.int 0, .null])) (st := [.ref q1, .ref h0]) dX0_init_11 lk_X0_11 mi_X8 rfl (kX8_14 cT D q1 ) (by decide) (by decide) (by decide) (Nat.le_of_ble_eq_true rfl) (fun w1 hq1 => ?_)
  obtain ⟨u1, h9⟩ := hq1
  subst h9
  refine gv_eq ((h0, .inr (0, [.null, .int 0, .int 0])) :: wX8_14 cT q1 u1) rfl ?_
  refine gv_putf (q0 := 0) dX0_init_14 ff_X0_14 rfl (Nat.le_of_ble_eq_true rfl) rfl rfl ?_
  refine gv_eq ((h0, .inr (0, [.ref q1, .int 0, .int 0])) :: wX8_14 cT q1 u1) rfl ?_
  exact gv_ret dX0_init_17 rfl (by decide) (by decide) ⟨fun k => [q1, u1 0].getD k 0, rfl⟩
def wX7 (cT : Nat → ClassId) (h0 : Nat) (u : Nat → Nat) : va_W := [(h0, .inr (7, [.ref (u 0), .ref (u 1), .ref (u 2), .int 0])), (u 0, zA cT 0 6), (u 1, zA cT 0 6), (u 2, zA cT 0 6)]
set_option maxRecDepth 10000 in
theorem kX7 (cT : Nat → ClassId) (D : va_G) (h0 : Nat) : Kt cT D 1 3 18 mX7_init h0 [] (.inr (7, [.null, .null, .null, .int 0])) (fun w => ∃ u : Nat → Nat, w = wX7 cT h0 u ) := by
  refine kt_intro (by decide) rfl (Nat.le_of_ble_eq_true rfl) (ent_one rfl) ?_
  refine gv_ald 0 dX7_init_0 rfl rfl ?_
  refine gv_obj dX7_init_1 ob_X7 (by decide) (Nat.le_of_ble_eq_true rfl) ?_
  refine gv_ald 0 dX7_init_4 rfl rfl ?_
  refine gv_bi (v := 6) dX7_init_5 (by decide) ?_
  refine gv_newi 6 (by decide) (by decide) (by decide) (by decide) dX7_init_7 (fun q1 => ?_)
  refine gv_eq ((h0, .inr (7, [.null, .null, .null, .int 0])) :: [(q1, zA cT 0 6)]) rfl ?_
  refine gv_putf (q0 := 0) dX7_init_9 ff_X7_9 rfl (Nat.le_of_ble_eq_true rfl) rfl rfl ?_
  refine gv_eq ((h0, .inr (7, [.ref q1, .null, .null, .int 0])) :: [(q1, zA cT 0 6)]) rfl ?_
  refine gv_ald 0 dX7_init_12 rfl rfl ?_
  refine gv_bi (v := 6) dX7_init_13 (by decide) ?_
  refine gv_newi 6 (by decide) (by decide) (by decide) (by decide) dX7_init_15 (fun q2 => ?_)
  refine gv_eq ((h0, .inr (7, [.ref q1, .null, .null, .int 0])) :: [(q1, zA cT 0 6)] ++ [(q2, zA cT 0 6)]) rfl ?_
  refine gv_putf (q0 := 0) dX7_init_17 ff_X7_15 rfl (Nat.le_of_ble_eq_true rfl) rfl rfl ?_
  refine gv_eq ((h0, .inr (7, [.ref q1, .ref q2, .null, .int 0])) :: [(q1, zA cT 0 6)] ++ [(q2, zA cT 0 6)]) rfl ?_
  refine gv_ald 0 dX7_init_20 rfl rfl ?_
  refine gv_bi (v := 6) dX7_init_21 (by decide) ?_
  refine gv_newi 6 (by decide) (by decide) (by decide) (by decide) dX7_init_23 (fun q3 => ?_)
  refine gv_eq ((h0, .inr (7, [.ref q1, .ref q2, .null, .int 0])) :: [(q1, zA cT 0 6)] ++ [(q2, zA cT 0 6)] ++ [(q3, zA cT 0 6)]) rfl ?_
  refine gv_putf (q0 := 0) dX7_init_25 ff_X7_18 rfl (Nat.le_of_ble_eq_true rfl) rfl rfl ?_
  refine gv_eq ((h0, .inr (7, [.ref q1, .ref q2, .ref q3, .int 0])) :: [(q1, zA cT 0 6)] ++ [(q2, zA cT 0 6)] ++ [(q3, zA cT 0 6)]) rfl ?_
  exact gv_ret dX7_init_28 rfl (by decide) (by decide) ⟨fun k => [q1, q2, q3].getD k 0, rfl⟩
def wX6 (cT : Nat → ClassId) (h0 : Nat) (u : Nat → Nat) (a1 a2 a3 : Nat) : va_W := [(h0, .inr (6, [.ref a1, .ref a2, .ref a3, .ref (u 0), .ref (u 1), .int 0, .int 0])), (u 0, zA cT 0 5), (u 1, zA cT 0 4)]
set_option maxRecDepth 10000 in
theorem kX6 (cT : Nat → ClassId) (D : va_G) (h0 : Nat) (a1 a2 a3 : Nat) : Kt cT D 1 2 9 mX6_init h0 [.ref a1, .ref a2, .ref a3] (.inr (6, [.null, .null, .null, .null, .null, .int 0, .int 0])) (fun w => ∃ u : Nat → Nat, w = wX6 cT h0 u a1 a2 a3) := by
  refine kt_intro (by decide) rfl (Nat.le_of_ble_eq_true rfl) (ent_one rfl) ?_
  refine gv_ald 0 dX6_init_0 rfl rfl ?_
  refine gv_obj dX6_init_1 ob_X6 (by decide) (Nat.le_of_ble_eq_true rfl) ?_
  refine gv_ald 0 dX6_init_4 rfl rfl ?_
  refine gv_ic (v := 5) dX6_init_5 (by decide) ?_
  refine gv_newi 5 (by decide) (by decide) (by decide) (by decide) dX6_init_6 (fun q1 => ?_)
  refine gv_eq ((h0, .inr (6, [.null, .null, .null, .null, .null, .int 0, .int 0])) :: [(q1, zA cT 0 5)]) rfl ?_
  refine gv_putf (q0 := 0) dX6_init_8 ff_X6_9 rfl (Nat.le_of_ble_eq_true rfl) rfl rfl ?_
  refine gv_eq ((h0, .inr (6, [.null, .null, .null, .ref q1, .null, .int 0, .int 0])) :: [(q1, zA cT 0 5)]) rfl ?_
  refine gv_ald 0 dX6_init_11 rfl rfl ?_
  refine gv_ic (v := 4) dX6_init_12 (by decide) ?_
  refine gv_newi 4 (by decide) (by decide) (by decide) (by decide) dX6_init_13 (fun q2 => ?_)
  refine gv_eq ((h0, .inr (6, [.null, .null, .null, .ref q1, .null, .int 0, .int 0])) :: [(q1, zA cT 0 5)] ++ [(q2, zA cT 0 4)]) rfl ?_
  refine gv_putf (q0 := 0) dX6_init_15 ff_X6_15 rfl (Nat.le_of_ble_eq_true rfl) rfl rfl ?_
  refine gv_eq ((h0, .inr (6, [.null, .null, .null, .ref q1, .ref q2, .int 0, .int 0])) :: [(q1, zA cT 0 5)] ++ [(q2, zA cT 0 4)]) rfl ?_
  refine gv_ald 0 dX6_init_18 rfl rfl ?_
  refine gv_ald 1 dX6_init_19 rfl rfl ?_
  refine gv_putf (q0 := 0) dX6_init_20 ff_X6_18 rfl (Nat.le_of_ble_eq_true rfl) rfl rfl ?_
  refine gv_eq ((h0, .inr (6, [.ref a1, .null, .null, .ref q1, .ref q2, .int 0, .int 0])) :: [(q1, zA cT 0 5)] ++ [(q2, zA cT 0 4)]) rfl ?_
  refine gv_ald 0 dX6_init_23 rfl rfl ?_
  refine gv_ald 2 dX6_init_24 rfl rfl ?_
  refine gv_putf (q0 := 0) dX6_init_25 ff_X6_22 rfl (Nat.le_of_ble_eq_true rfl) rfl rfl ?_
  refine gv_eq ((h0, .inr (6, [.ref a1, .ref a2, .null, .ref q1, .ref q2, .int 0, .int 0])) :: [(q1, zA cT 0 5)] ++ [(q2, zA cT 0 4)]) rfl ?_
  refine gv_ald 0 dX6_init_28 rfl rfl ?_
  refine gv_ald 3 dX6_init_29 rfl rfl ?_
  refine gv_putf (q0 := 0) dX6_init_30 ff_X6_26 rfl (Nat.le_of_ble_eq_true rfl) rfl rfl ?_
  refine gv_eq ((h0, .inr (6, [.ref a1, .ref a2, .ref a3, .ref q1, .ref q2, .int 0, .int 0])) :: [(q1, zA cT 0 5)] ++ [(q2, zA cT 0 4)]) rfl ?_
  exact gv_ret dX6_init_33 rfl (by decide) (by decide) ⟨fun k => [q1, q2].getD k 0, rfl⟩
def wX1 (cT : Nat → ClassId) (h0 : Nat) (u : Nat → Nat) (a1 a2 a3 : Nat) : va_W := [(h0, .inr (1, [.ref a1, .ref a2, .ref a3]))]
set_option maxRecDepth 10000 in
theorem kX1 (cT : Nat → ClassId) (D : va_G) (h0 : Nat) (a1 a2 a3 : Nat) : Kt cT D 1 0 0 mX1_init h0 [.ref a1, .ref a2, .ref a3] (.inr (1, [.null, .null, .null])) (fun w => ∃ u : Nat → Nat, w = wX1 cT h0 u a1 a2 a3) := by
  refine kt_intro (by decide) rfl (Nat.le_of_ble_eq_true rfl) (ent_one rfl) ?_
  refine gv_ald 0 dX1_init_0 rfl rfl ?_
  refine gv_obj dX1_init_1 ob_X1 (by decide) (Nat.le_of_ble_eq_true rfl) ?_
  refine gv_ald 0 dX1_init_4 rfl rfl ?_
  refine gv_ald 1 dX1_init_5 rfl rfl ?_
  refine gv_putf (q0 := 0) dX1_init_6 ff_X1_9 rfl (Nat.le_of_ble_eq_true rfl) rfl rfl ?_
  refine gv_eq ((h0, .inr (1, [.ref a1, .null, .null])) :: []) rfl ?_
  refine gv_ald 0 dX1_init_9 rfl rfl ?_
  refine gv_ald 2 dX1_init_10 rfl rfl ?_
  refine gv_putf (q0 := 0) dX1_init_11 ff_X1_15 rfl (Nat.le_of_ble_eq_true rfl) rfl rfl ?_
  refine gv_eq ((h0, .inr (1, [.ref a1, .ref a2, .null])) :: []) rfl ?_
  refine gv_ald 0 dX1_init_14 rfl rfl ?_
  refine gv_ald 3 dX1_init_15 rfl rfl ?_
  refine gv_putf (q0 := 0) dX1_init_16 ff_X1_19 rfl (Nat.le_of_ble_eq_true rfl) rfl rfl ?_
  refine gv_eq ((h0, .inr (1, [.ref a1, .ref a2, .ref a3])) :: []) rfl ?_
  exact gv_ret dX1_init_19 rfl (by decide) (by decide) ⟨fun k => [].getD k 0, rfl⟩
def wX4 (cT : Nat → ClassId) (h0 : Nat) (u : Nat → Nat) (a1 a2 : Nat) : va_W := [(h0, .inr (4, [.ref a1, .ref a2, .int 0, .int 0, .int 0, .int 0]))]
set_option maxRecDepth 10000 in
theorem kX4 (cT : Nat → ClassId) (D : va_G) (h0 : Nat) (a1 a2 : Nat) : Kt cT D 1 0 0 mX4_init h0 [.ref a1, .ref a2] (.inr (4, [.null, .null, .int 0, .int 0, .int 0, .int 0])) (fun w => ∃ u : Nat → Nat, w = wX4 cT h0 u a1 a2) := by
  refine kt_intro (by decide) rfl (Nat.le_of_ble_eq_true rfl) (ent_one rfl) ?_
  refine gv_ald 0 dX4_init_0 rfl rfl ?_
  refine gv_obj dX4_init_1 ob_X4 (by decide) (Nat.le_of_ble_eq_true rfl) ?_
  refine gv_ald 0 dX4_init_4 rfl rfl ?_
  refine gv_ald 1 dX4_init_5 rfl rfl ?_
  refine gv_putf (q0 := 0) dX4_init_6 ff_X4_9 rfl (Nat.le_of_ble_eq_true rfl) rfl rfl ?_
  refine gv_eq ((h0, .inr (4, [.ref a1, .null, .int 0, .int 0, .int 0, .int 0])) :: []) rfl ?_
  refine gv_ald 0 dX4_init_9 rfl rfl ?_
  refine gv_ald 2 dX4_init_10 rfl rfl ?_
  refine gv_putf (q0 := 0) dX4_init_11 ff_X4_15 rfl (Nat.le_of_ble_eq_true rfl) rfl rfl ?_
  refine gv_eq ((h0, .inr (4, [.ref a1, .ref a2, .int 0, .int 0, .int 0, .int 0])) :: []) rfl ?_
  exact gv_ret dX4_init_14 rfl (by decide) (by decide) ⟨fun k => [].getD k 0, rfl⟩
def wX10 (cT : Nat → ClassId) (h0 : Nat) (u : Nat → Nat) : va_W := [(h0, .inr (10, [.ref (u 0), .ref (u 2), .ref (u 3), .ref (u 10), .ref (u 17), .ref (u 21), .ref (u 25), .ref (u 29), .ref (u 32), .int 0, .ref (u 34), .ref (u 38), .ref (u 41), .ref (u 42), .long 0])), (u 0, .inr (3, [.ref (u 1), .int 0])), (u 1, zA cT 0 60), (u 2, .inr (5, [.int 0, .int 0, .int 0])), (u 3, .inr (2, [.int 0, .int 0, .ref (u 4), .ref (u 5), .ref (u 6), .ref (u 7), .ref (u 8), .ref (u 9)])), (u 4, zA cT 0 5), (u 5, zA cT 0 5), (u 6, zA cT 0 5), (u 7, zA cT 0 4), (u 8, zA cT 0 4), (u 9, zA cT 0 4), (u 10, .inr (2, [.int 0, .int 0, .ref (u 11), .ref (u 12), .ref (u 13), .ref (u 14), .ref (u 15), .ref (u 16)])), (u 11, zA cT 0 5), (u 12, zA cT 0 5), (u 13, zA cT 0 5), (u 14, zA cT 0 4), (u 15, zA cT 0 4), (u 16, zA cT 0 4), (u 17, .inr (9, [.ref (u 10), .ref (u 18), .ref (u 19), .ref (u 20), .int 0])), (u 18, zA cT 0 5), (u 19, zA cT 0 5), (u 20, zA cT 0 4), (u 21, .inr (9, [.ref (u 10), .ref (u 22), .ref (u 23), .ref (u 24), .int 0])), (u 22, zA cT 0 5), (u 23, zA cT 0 5), (u 24, zA cT 0 4), (u 25, .inr (9, [.ref (u 10), .ref (u 26), .ref (u 27), .ref (u 28), .int 0])), (u 26, zA cT 0 5), (u 27, zA cT 0 5), (u 28, zA cT 0 4), (u 29, .inr (0, [.ref (u 30), .int 0, .int 0])), (u 30, .inr (8, [.int 14, .ref (u 31)])), (u 31, zA cT 0 210), (u 32, .inr (8, [.int 2, .ref (u 33)])), (u 33, zA cT 0 30), (u 34, .inr (7, [.ref (u 35), .ref (u 36), .ref (u 37), .int 0])), (u 35, zA cT 0 6), (u 36, zA cT 0 6), (u 37, zA cT 0 6), (u 38, .inr (6, [.ref (u 10), .ref (u 17), .ref (u 25), .ref (u 39), .ref (u 40), .int 0, .int 0])), (u 39, zA cT 0 5), (u 40, zA cT 0 4), (u 41, .inr (1, [.ref (u 10), .ref (u 17), .ref (u 25)])), (u 42, .inr (4, [.ref (u 10), .ref (u 17), .int 0, .int 0, .int 0, .int 0]))]
set_option maxRecDepth 10000 in
theorem kX10 (cT : Nat → ClassId) (D : va_G) (h0 : Nat) : Kt cT D 3 43 486 mX10_init h0 [] (.inr (10, [.null, .null, .null, .null, .null, .null, .null, .null, .null, .int 0, .null, .null, .null, .null, .long 0])) (fun w => ∃ u : Nat → Nat, w = wX10 cT h0 u ) := by
  refine kt_intro (by decide) rfl (Nat.le_of_ble_eq_true rfl) (ent_one rfl) ?_
  refine gv_ald 0 dX10_init_0 rfl rfl ?_
  refine gv_obj dX10_init_1 ob_X10 (by decide) (Nat.le_of_ble_eq_true rfl) ?_
  refine gv_ald 0 dX10_init_4 rfl rfl ?_
  refine gv_new nw_X10_9 (by decide) (by decide) dX10_init_5 (fun q1 => ?_)
  refine gv_dup dX10_init_8 rfl ?_
  refine gv_call (M' := mX3_init) (ws := ((h0, .inr (10, [.null, .null, .null, .null, .null, .null, .null, .null, .null, .int 0, .null, .null, .null, .null, .long 0])) :: [])) (As := []) (h := q1) (e0 := .inr (3, [.null, .int 0])) (st := [.ref q1, .ref h0]) dX10_init_9 lk_X10_11 mi_X3 rfl (kX3 cT D q1 ) (by decide) (by decide) (by decide) (Nat.le_of_ble_eq_true rfl) (fun w1 hq1 => ?_)
  obtain ⟨u1, h9⟩ := hq1
  subst h9
  refine gv_eq ((h0, .inr (10, [.null, .null, .null, .null, .null, .null, .null, .null, .null, .int 0, .null, .null, .null, .null, .long 0])) :: wX3 cT q1 u1) rfl ?_
  refine gv_putf (q0 := 0) dX10_init_12 ff_X10_12 rfl (Nat.le_of_ble_eq_true rfl) rfl rfl ?_
  refine gv_eq ((h0, .inr (10, [.ref q1, .null, .null, .null, .null, .null, .null, .null, .null, .int 0, .null, .null, .null, .null, .long 0])) :: wX3 cT q1 u1) rfl ?_
  refine gv_ald 0 dX10_init_15 rfl rfl ?_
  refine gv_new nw_X10_16 (by decide) (by decide) dX10_init_16 (fun q2 => ?_)
  refine gv_dup dX10_init_19 rfl ?_
  refine gv_call (M' := mX5_init) (ws := ((h0, .inr (10, [.ref q1, .null, .null, .null, .null, .null, .null, .null, .null, .int 0, .null, .null, .null, .null, .long 0])) :: wX3 cT q1 u1)) (As := []) (h := q2) (e0 := .inr (5, [.int 0, .int 0, .int 0])) (st := [.ref q2, .ref h0]) dX10_init_20 lk_X10_18 mi_X5 rfl (kX5 cT D q2 ) (by decide) (by decide) (by decide) (Nat.le_of_ble_eq_true rfl) (fun w2 hq2 => ?_)
  obtain ⟨u2, h9⟩ := hq2
  subst h9
  refine gv_eq ((h0, .inr (10, [.ref q1, .null, .null, .null, .null, .null, .null, .null, .null, .int 0, .null, .null, .null, .null, .long 0])) :: wX3 cT q1 u1 ++ wX5 cT q2 u2) rfl ?_
  refine gv_putf (q0 := 0) dX10_init_23 ff_X10_19 rfl (Nat.le_of_ble_eq_true rfl) rfl rfl ?_
  refine gv_eq ((h0, .inr (10, [.ref q1, .ref q2, .null, .null, .null, .null, .null, .null, .null, .int 0, .null, .null, .null, .null, .long 0])) :: wX3 cT q1 u1 ++ wX5 cT q2 u2) rfl ?_
  refine gv_ald 0 dX10_init_26 rfl rfl ?_
  refine gv_new nw_X10_23 (by decide) (by decide) dX10_init_27 (fun q3 => ?_)
  refine gv_dup dX10_init_30 rfl ?_
  refine gv_call (M' := mX2_init) (ws := ((h0, .inr (10, [.ref q1, .ref q2, .null, .null, .null, .null, .null, .null, .null, .int 0, .null, .null, .null, .null, .long 0])) :: wX3 cT q1 u1 ++ wX5 cT q2 u2)) (As := []) (h := q3) (e0 := .inr (2, [.int 0, .int 0, .null, .null, .null, .null, .null, .null])) (st := [.ref q3, .ref h0]) dX10_init_31 lk_X10_25 mi_X2 rfl (kX2 cT D q3 ) (by decide) (by decide) (by decide) (Nat.le_of_ble_eq_true rfl) (fun w3 hq3 => ?_)
  obtain ⟨u3, h9⟩ := hq3
  subst h9
  refine gv_eq ((h0, .inr (10, [.ref q1, .ref q2, .null, .null, .null, .null, .null, .null, .null, .int 0, .null, .null, .null, .null, .long 0])) :: wX3 cT q1 u1 ++ wX5 cT q2 u2 ++ wX2 cT q3 u3) rfl ?_
  refine gv_putf (q0 := 0) dX10_init_34 ff_X10_26 rfl (Nat.le_of_ble_eq_true rfl) rfl rfl ?_
  refine gv_eq ((h0, .inr (10, [.ref q1, .ref q2, .ref q3, .null, .null, .null, .null, .null, .null, .int 0, .null, .null, .null, .null, .long 0])) :: wX3 cT q1 u1 ++ wX5 cT q2 u2 ++ wX2 cT q3 u3) rfl ?_
  refine gv_ald 0 dX10_init_37 rfl rfl ?_
  refine gv_new nw_X10_23 (by decide) (by decide) dX10_init_38 (fun q4 => ?_)
  refine gv_dup dX10_init_41 rfl ?_
  refine gv_call (M' := mX2_init) (ws := ((h0, .inr (10, [.ref q1, .ref q2, .ref q3, .null, .null, .null, .null, .null, .null, .int 0, .null, .null, .null, .null, .long 0])) :: wX3 cT q1 u1 ++ wX5 cT q2 u2 ++ wX2 cT q3 u3)) (As := []) (h := q4) (e0 := .inr (2, [.int 0, .int 0, .null, .null, .null, .null, .null, .null])) (st := [.ref q4, .ref h0]) dX10_init_42 lk_X10_25 mi_X2 rfl (kX2 cT D q4 ) (by decide) (by decide) (by decide) (Nat.le_of_ble_eq_true rfl) (fun w4 hq4 => ?_)
  obtain ⟨u4, h9⟩ := hq4
  subst h9
  refine gv_eq ((h0, .inr (10, [.ref q1, .ref q2, .ref q3, .null, .null, .null, .null, .null, .null, .int 0, .null, .null, .null, .null, .long 0])) :: wX3 cT q1 u1 ++ wX5 cT q2 u2 ++ wX2 cT q3 u3 ++ wX2 cT q4 u4) rfl ?_
  refine gv_putf (q0 := 0) dX10_init_45 ff_X10_30 rfl (Nat.le_of_ble_eq_true rfl) rfl rfl ?_
  refine gv_eq ((h0, .inr (10, [.ref q1, .ref q2, .ref q3, .ref q4, .null, .null, .null, .null, .null, .int 0, .null, .null, .null, .null, .long 0])) :: wX3 cT q1 u1 ++ wX5 cT q2 u2 ++ wX2 cT q3 u3 ++ wX2 cT q4 u4) rfl ?_
  refine gv_ald 0 dX10_init_48 rfl rfl ?_
  refine gv_new nw_X10_33 (by decide) (by decide) dX10_init_49 (fun q5 => ?_)
  refine gv_dup dX10_init_52 rfl ?_
  refine gv_ald 0 dX10_init_53 rfl rfl ?_
  refine gv_get (q0 := 0) dX10_init_54 fl_X10_30 rfl rfl ?_
  refine gv_call (M' := mX9_init) (ws := ((h0, .inr (10, [.ref q1, .ref q2, .ref q3, .ref q4, .null, .null, .null, .null, .null, .int 0, .null, .null, .null, .null, .long 0])) :: wX3 cT q1 u1 ++ wX5 cT q2 u2 ++ wX2 cT q3 u3 ++ wX2 cT q4 u4)) (As := [.ref q4]) (h := q5) (e0 := .inr (9, [.null, .null, .null, .null, .int 0])) (st := [.ref q5, .ref h0]) dX10_init_57 lk_X10_35 mi_X9 rfl (kX9 cT D q5 q4) (by decide) (by decide) (by decide) (Nat.le_of_ble_eq_true rfl) (fun w5 hq5 => ?_)
  obtain ⟨u5, h9⟩ := hq5
  subst h9
  refine gv_eq ((h0, .inr (10, [.ref q1, .ref q2, .ref q3, .ref q4, .null, .null, .null, .null, .null, .int 0, .null, .null, .null, .null, .long 0])) :: wX3 cT q1 u1 ++ wX5 cT q2 u2 ++ wX2 cT q3 u3 ++ wX2 cT q4 u4 ++ wX9 cT q5 u5 q4) rfl ?_
  refine gv_putf (q0 := 0) dX10_init_60 ff_X10_38 rfl (Nat.le_of_ble_eq_true rfl) rfl rfl ?_
  refine gv_eq ((h0, .inr (10, [.ref q1, .ref q2, .ref q3, .ref q4, .ref q5, .null, .null, .null, .null, .int 0, .null, .null, .null, .null, .long 0])) :: wX3 cT q1 u1 ++ wX5 cT q2 u2 ++ wX2 cT q3 u3 ++ wX2 cT q4 u4 ++ wX9 cT q5 u5 q4) rfl ?_
  refine gv_ald 0 dX10_init_63 rfl rfl ?_
  refine gv_new nw_X10_33 (by decide) (by decide) dX10_init_64 (fun q6 => ?_)
  refine gv_dup dX10_init_67 rfl ?_
  refine gv_ald 0 dX10_init_68 rfl rfl ?_
  refine gv_get (q0 := 0) dX10_init_69 fl_X10_30 rfl rfl ?_
  refine gv_call (M' := mX9_init) (ws := ((h0, .inr (10, [.ref q1, .ref q2, .ref q3, .ref q4, .ref q5, .null, .null, .null, .null, .int 0, .null, .null, .null, .null, .long 0])) :: wX3 cT q1 u1 ++ wX5 cT q2 u2 ++ wX2 cT q3 u3 ++ wX2 cT q4 u4 ++ wX9 cT q5 u5 q4)) (As := [.ref q4]) (h := q6) (e0 := .inr (9, [.null, .null, .null, .null, .int 0])) (st := [.ref q6, .ref h0]) dX10_init_72 lk_X10_35 mi_X9 rfl (kX9 cT D q6 q4) (by decide) (by decide) (by decide) (Nat.le_of_ble_eq_true rfl) (fun w6 hq6 => ?_)
  obtain ⟨u6, h9⟩ := hq6
  subst h9
  refine gv_eq ((h0, .inr (10, [.ref q1, .ref q2, .ref q3, .ref q4, .ref q5, .null, .null, .null, .null, .int 0, .null, .null, .null, .null, .long 0])) :: wX3 cT q1 u1 ++ wX5 cT q2 u2 ++ wX2 cT q3 u3 ++ wX2 cT q4 u4 ++ wX9 cT q5 u5 q4 ++ wX9 cT q6 u6 q4) rfl ?_
  refine gv_putf (q0 := 0) dX10_init_75 ff_X10_42 rfl (Nat.le_of_ble_eq_true rfl) rfl rfl ?_
  refine gv_eq ((h0, .inr (10, [.ref q1, .ref q2, .ref q3, .ref q4, .ref q5, .ref q6, .null, .null, .null, .int 0, .null, .null, .null, .null, .long 0])) :: wX3 cT q1 u1 ++ wX5 cT q2 u2 ++ wX2 cT q3 u3 ++ wX2 cT q4 u4 ++ wX9 cT q5 u5 q4 ++ wX9 cT q6 u6 q4) rfl ?_
  refine gv_ald 0 dX10_init_78 rfl rfl ?_
  refine gv_new nw_X10_33 (by decide) (by decide) dX10_init_79 (fun q7 => ?_)
  refine gv_dup dX10_init_82 rfl ?_
  refine gv_ald 0 dX10_init_83 rfl rfl ?_
  refine gv_get (q0 := 0) dX10_init_84 fl_X10_30 rfl rfl ?_
  refine gv_call (M' := mX9_init) (ws := ((h0, .inr (10, [.ref q1, .ref q2, .ref q3, .ref q4, .ref q5, .ref q6, .null, .null, .null, .int 0, .null, .null, .null, .null, .long 0])) :: wX3 cT q1 u1 ++ wX5 cT q2 u2 ++ wX2 cT q3 u3 ++ wX2 cT q4 u4 ++ wX9 cT q5 u5 q4 ++ wX9 cT q6 u6 q4)) (As := [.ref q4]) (h := q7) (e0 := .inr (9, [.null, .null, .null, .null, .int 0])) (st := [.ref q7, .ref h0]) dX10_init_87 lk_X10_35 mi_X9 rfl (kX9 cT D q7 q4) (by decide) (by decide) (by decide) (Nat.le_of_ble_eq_true rfl) (fun w7 hq7 => ?_)
  obtain ⟨u7, h9⟩ := hq7
  subst h9
  refine gv_eq ((h0, .inr (10, [.ref q1, .ref q2, .ref q3, .ref q4, .ref q5, .ref q6, .null, .null, .null, .int 0, .null, .null, .null, .null, .long 0])) :: wX3 cT q1 u1 ++ wX5 cT q2 u2 ++ wX2 cT q3 u3 ++ wX2 cT q4 u4 ++ wX9 cT q5 u5 q4 ++ wX9 cT q6 u6 q4 ++ wX9 cT q7 u7 q4) rfl ?_
  refine gv_putf (q0 := 0) dX10_init_90 ff_X10_45 rfl (Nat.le_of_ble_eq_true rfl) rfl rfl ?_
  refine gv_eq ((h0, .inr (10, [.ref q1, .ref q2, .ref q3, .ref q4, .ref q5, .ref q6, .ref q7, .null, .null, .int 0, .null, .null, .null, .null, .long 0])) :: wX3 cT q1 u1 ++ wX5 cT q2 u2 ++ wX2 cT q3 u3 ++ wX2 cT q4 u4 ++ wX9 cT q5 u5 q4 ++ wX9 cT q6 u6 q4 ++ wX9 cT q7 u7 q4) rfl ?_
  refine gv_ald 0 dX10_init_93 rfl rfl ?_
  refine gv_new nw_X10_48 (by decide) (by decide) dX10_init_94 (fun q8 => ?_)
  refine gv_dup dX10_init_97 rfl ?_
  refine gv_call (M' := mX0_init) (ws := ((h0, .inr (10, [.ref q1, .ref q2, .ref q3, .ref q4, .ref q5, .ref q6, .ref q7, .null, .null, .int 0, .null, .null, .null, .null, .long 0])) :: wX3 cT q1 u1 ++ wX5 cT q2 u2 ++ wX2 cT q3 u3 ++ wX2 cT q4 u4 ++ wX9 cT q5 u5 q4 ++ wX9 cT q6 u6 q4 ++ wX9 cT q7 u7 q4)) (As := []) (h := q8) (e0 := .inr (0, [.null, .int 0, .int 0])) (st := [.ref q8, .ref h0]) dX10_init_98 lk_X10_50 mi_X0 rfl (kX0 cT D q8 ) (by decide) (by decide) (by decide) (Nat.le_of_ble_eq_true rfl) (fun w8 hq8 => ?_)
  obtain ⟨u8, h9⟩ := hq8
  subst h9
  refine gv_eq ((h0, .inr (10, [.ref q1, .ref q2, .ref q3, .ref q4, .ref q5, .ref q6, .ref q7, .null, .null, .int 0, .null, .null, .null, .null, .long 0])) :: wX3 cT q1 u1 ++ wX5 cT q2 u2 ++ wX2 cT q3 u3 ++ wX2 cT q4 u4 ++ wX9 cT q5 u5 q4 ++ wX9 cT q6 u6 q4 ++ wX9 cT q7 u7 q4 ++ wX0 cT q8 u8) rfl ?_
  refine gv_putf (q0 := 0) dX10_init_101 ff_X10_51 rfl (Nat.le_of_ble_eq_true rfl) rfl rfl ?_
  refine gv_eq ((h0, .inr (10, [.ref q1, .ref q2, .ref q3, .ref q4, .ref q5, .ref q6, .ref q7, .ref q8, .null, .int 0, .null, .null, .null, .null, .long 0])) :: wX3 cT q1 u1 ++ wX5 cT q2 u2 ++ wX2 cT q3 u3 ++ wX2 cT q4 u4 ++ wX9 cT q5 u5 q4 ++ wX9 cT q6 u6 q4 ++ wX9 cT q7 u7 q4 ++ wX0 cT q8 u8) rfl ?_
  refine gv_ald 0 dX10_init_104 rfl rfl ?_
  refine gv_new nw_X10_55 (by decide) (by decide) dX10_init_105 (fun q9 => ?_)
  refine gv_dup dX10_init_108 rfl ?_
  refine gv_ic (v := 2) dX10_init_109 (by decide) ?_
  refine gv_call (M' := mX8_init) (ws := ((h0, .inr (10, [.ref q1, .ref q2, .ref q3, .ref q4, .ref q5, .ref q6, .ref q7, .ref q8, .null, .int 0, .null, .null, .null, .null, .long 0])) :: wX3 cT q1 u1 ++ wX5 cT q2 u2 ++ wX2 cT q3 u3 ++ wX2 cT q4 u4 ++ wX9 cT q5 u5 q4 ++ wX9 cT q6 u6 q4 ++ wX9 cT q7 u7 q4 ++ wX0 cT q8 u8)) (As := [.int 2]) (h := q9) (e0 := .inr (8, [.int 0, .null])) (st := [.ref q9, .ref h0]) dX10_init_110 lk_X10_57 mi_X8 rfl (kX8_2 cT D q9 ) (by decide) (by decide) (by decide) (Nat.le_of_ble_eq_true rfl) (fun w9 hq9 => ?_)
  obtain ⟨u9, h9⟩ := hq9
  subst h9
  refine gv_eq ((h0, .inr (10, [.ref q1, .ref q2, .ref q3, .ref q4, .ref q5, .ref q6, .ref q7, .ref q8, .null, .int 0, .null, .null, .null, .null, .long 0])) :: wX3 cT q1 u1 ++ wX5 cT q2 u2 ++ wX2 cT q3 u3 ++ wX2 cT q4 u4 ++ wX9 cT q5 u5 q4 ++ wX9 cT q6 u6 q4 ++ wX9 cT q7 u7 q4 ++ wX0 cT q8 u8 ++ wX8_2 cT q9 u9) rfl ?_
  refine gv_putf (q0 := 0) dX10_init_113 ff_X10_60 rfl (Nat.le_of_ble_eq_true rfl) rfl rfl ?_
  refine gv_eq ((h0, .inr (10, [.ref q1, .ref q2, .ref q3, .ref q4, .ref q5, .ref q6, .ref q7, .ref q8, .ref q9, .int 0, .null, .null, .null, .null, .long 0])) :: wX3 cT q1 u1 ++ wX5 cT q2 u2 ++ wX2 cT q3 u3 ++ wX2 cT q4 u4 ++ wX9 cT q5 u5 q4 ++ wX9 cT q6 u6 q4 ++ wX9 cT q7 u7 q4 ++ wX0 cT q8 u8 ++ wX8_2 cT q9 u9) rfl ?_
  refine gv_ald 0 dX10_init_116 rfl rfl ?_
  refine gv_new nw_X10_64 (by decide) (by decide) dX10_init_117 (fun q10 => ?_)
  refine gv_dup dX10_init_120 rfl ?_
  refine gv_call (M' := mX7_init) (ws := ((h0, .inr (10, [.ref q1, .ref q2, .ref q3, .ref q4, .ref q5, .ref q6, .ref q7, .ref q8, .ref q9, .int 0, .null, .null, .null, .null, .long 0])) :: wX3 cT q1 u1 ++ wX5 cT q2 u2 ++ wX2 cT q3 u3 ++ wX2 cT q4 u4 ++ wX9 cT q5 u5 q4 ++ wX9 cT q6 u6 q4 ++ wX9 cT q7 u7 q4 ++ wX0 cT q8 u8 ++ wX8_2 cT q9 u9)) (As := []) (h := q10) (e0 := .inr (7, [.null, .null, .null, .int 0])) (st := [.ref q10, .ref h0]) dX10_init_121 lk_X10_66 mi_X7 rfl (kX7 cT D q10 ) (by decide) (by decide) (by decide) (Nat.le_of_ble_eq_true rfl) (fun w10 hq10 => ?_)
  obtain ⟨u10, h9⟩ := hq10
  subst h9
  refine gv_eq ((h0, .inr (10, [.ref q1, .ref q2, .ref q3, .ref q4, .ref q5, .ref q6, .ref q7, .ref q8, .ref q9, .int 0, .null, .null, .null, .null, .long 0])) :: wX3 cT q1 u1 ++ wX5 cT q2 u2 ++ wX2 cT q3 u3 ++ wX2 cT q4 u4 ++ wX9 cT q5 u5 q4 ++ wX9 cT q6 u6 q4 ++ wX9 cT q7 u7 q4 ++ wX0 cT q8 u8 ++ wX8_2 cT q9 u9 ++ wX7 cT q10 u10) rfl ?_
  refine gv_putf (q0 := 0) dX10_init_124 ff_X10_67 rfl (Nat.le_of_ble_eq_true rfl) rfl rfl ?_
  refine gv_eq ((h0, .inr (10, [.ref q1, .ref q2, .ref q3, .ref q4, .ref q5, .ref q6, .ref q7, .ref q8, .ref q9, .int 0, .ref q10, .null, .null, .null, .long 0])) :: wX3 cT q1 u1 ++ wX5 cT q2 u2 ++ wX2 cT q3 u3 ++ wX2 cT q4 u4 ++ wX9 cT q5 u5 q4 ++ wX9 cT q6 u6 q4 ++ wX9 cT q7 u7 q4 ++ wX0 cT q8 u8 ++ wX8_2 cT q9 u9 ++ wX7 cT q10 u10) rfl ?_
  refine gv_ald 0 dX10_init_127 rfl rfl ?_
  refine gv_new nw_X10_71 (by decide) (by decide) dX10_init_128 (fun q11 => ?_)
  refine gv_dup dX10_init_131 rfl ?_
  refine gv_ald 0 dX10_init_132 rfl rfl ?_
  refine gv_get (q0 := 0) dX10_init_133 fl_X10_30 rfl rfl ?_
  refine gv_ald 0 dX10_init_136 rfl rfl ?_
  refine gv_get (q0 := 0) dX10_init_137 fl_X10_38 rfl rfl ?_
  refine gv_ald 0 dX10_init_140 rfl rfl ?_
  refine gv_get (q0 := 0) dX10_init_141 fl_X10_45 rfl rfl ?_
  refine gv_call (M' := mX6_init) (ws := ((h0, .inr (10, [.ref q1, .ref q2, .ref q3, .ref q4, .ref q5, .ref q6, .ref q7, .ref q8, .ref q9, .int 0, .ref q10, .null, .null, .null, .long 0])) :: wX3 cT q1 u1 ++ wX5 cT q2 u2 ++ wX2 cT q3 u3 ++ wX2 cT q4 u4 ++ wX9 cT q5 u5 q4 ++ wX9 cT q6 u6 q4 ++ wX9 cT q7 u7 q4 ++ wX0 cT q8 u8 ++ wX8_2 cT q9 u9 ++ wX7 cT q10 u10)) (As := [.ref q4, .ref q5, .ref q7]) (h := q11) (e0 := .inr (6, [.null, .null, .null, .null, .null, .int 0, .int 0])) (st := [.ref q11, .ref h0]) dX10_init_144 lk_X10_73 mi_X6 rfl (kX6 cT D q11 q4 q5 q7) (by decide) (by decide) (by decide) (Nat.le_of_ble_eq_true rfl) (fun w11 hq11 => ?_)
  obtain ⟨u11, h9⟩ := hq11
  subst h9
  refine gv_eq ((h0, .inr (10, [.ref q1, .ref q2, .ref q3, .ref q4, .ref q5, .ref q6, .ref q7, .ref q8, .ref q9, .int 0, .ref q10, .null, .null, .null, .long 0])) :: wX3 cT q1 u1 ++ wX5 cT q2 u2 ++ wX2 cT q3 u3 ++ wX2 cT q4 u4 ++ wX9 cT q5 u5 q4 ++ wX9 cT q6 u6 q4 ++ wX9 cT q7 u7 q4 ++ wX0 cT q8 u8 ++ wX8_2 cT q9 u9 ++ wX7 cT q10 u10 ++ wX6 cT q11 u11 q4 q5 q7) rfl ?_
  refine gv_putf (q0 := 0) dX10_init_147 ff_X10_76 rfl (Nat.le_of_ble_eq_true rfl) rfl rfl ?_
  refine gv_eq ((h0, .inr (10, [.ref q1, .ref q2, .ref q3, .ref q4, .ref q5, .ref q6, .ref q7, .ref q8, .ref q9, .int 0, .ref q10, .ref q11, .null, .null, .long 0])) :: wX3 cT q1 u1 ++ wX5 cT q2 u2 ++ wX2 cT q3 u3 ++ wX2 cT q4 u4 ++ wX9 cT q5 u5 q4 ++ wX9 cT q6 u6 q4 ++ wX9 cT q7 u7 q4 ++ wX0 cT q8 u8 ++ wX8_2 cT q9 u9 ++ wX7 cT q10 u10 ++ wX6 cT q11 u11 q4 q5 q7) rfl ?_
  refine gv_ald 0 dX10_init_150 rfl rfl ?_
  refine gv_new nw_X10_80 (by decide) (by decide) dX10_init_151 (fun q12 => ?_)
  refine gv_dup dX10_init_154 rfl ?_
  refine gv_ald 0 dX10_init_155 rfl rfl ?_
  refine gv_get (q0 := 0) dX10_init_156 fl_X10_30 rfl rfl ?_
  refine gv_ald 0 dX10_init_159 rfl rfl ?_
  refine gv_get (q0 := 0) dX10_init_160 fl_X10_38 rfl rfl ?_
  refine gv_ald 0 dX10_init_163 rfl rfl ?_
  refine gv_get (q0 := 0) dX10_init_164 fl_X10_45 rfl rfl ?_
  refine gv_call (M' := mX1_init) (ws := ((h0, .inr (10, [.ref q1, .ref q2, .ref q3, .ref q4, .ref q5, .ref q6, .ref q7, .ref q8, .ref q9, .int 0, .ref q10, .ref q11, .null, .null, .long 0])) :: wX3 cT q1 u1 ++ wX5 cT q2 u2 ++ wX2 cT q3 u3 ++ wX2 cT q4 u4 ++ wX9 cT q5 u5 q4 ++ wX9 cT q6 u6 q4 ++ wX9 cT q7 u7 q4 ++ wX0 cT q8 u8 ++ wX8_2 cT q9 u9 ++ wX7 cT q10 u10 ++ wX6 cT q11 u11 q4 q5 q7)) (As := [.ref q4, .ref q5, .ref q7]) (h := q12) (e0 := .inr (1, [.null, .null, .null])) (st := [.ref q12, .ref h0]) dX10_init_167 lk_X10_82 mi_X1 rfl (kX1 cT D q12 q4 q5 q7) (by decide) (by decide) (by decide) (Nat.le_of_ble_eq_true rfl) (fun w12 hq12 => ?_)
  obtain ⟨u12, h9⟩ := hq12
  subst h9
  refine gv_eq ((h0, .inr (10, [.ref q1, .ref q2, .ref q3, .ref q4, .ref q5, .ref q6, .ref q7, .ref q8, .ref q9, .int 0, .ref q10, .ref q11, .null, .null, .long 0])) :: wX3 cT q1 u1 ++ wX5 cT q2 u2 ++ wX2 cT q3 u3 ++ wX2 cT q4 u4 ++ wX9 cT q5 u5 q4 ++ wX9 cT q6 u6 q4 ++ wX9 cT q7 u7 q4 ++ wX0 cT q8 u8 ++ wX8_2 cT q9 u9 ++ wX7 cT q10 u10 ++ wX6 cT q11 u11 q4 q5 q7 ++ wX1 cT q12 u12 q4 q5 q7) rfl ?_
  refine gv_putf (q0 := 0) dX10_init_170 ff_X10_83 rfl (Nat.le_of_ble_eq_true rfl) rfl rfl ?_
  refine gv_eq ((h0, .inr (10, [.ref q1, .ref q2, .ref q3, .ref q4, .ref q5, .ref q6, .ref q7, .ref q8, .ref q9, .int 0, .ref q10, .ref q11, .ref q12, .null, .long 0])) :: wX3 cT q1 u1 ++ wX5 cT q2 u2 ++ wX2 cT q3 u3 ++ wX2 cT q4 u4 ++ wX9 cT q5 u5 q4 ++ wX9 cT q6 u6 q4 ++ wX9 cT q7 u7 q4 ++ wX0 cT q8 u8 ++ wX8_2 cT q9 u9 ++ wX7 cT q10 u10 ++ wX6 cT q11 u11 q4 q5 q7 ++ wX1 cT q12 u12 q4 q5 q7) rfl ?_
  refine gv_ald 0 dX10_init_173 rfl rfl ?_
  refine gv_new nw_X10_87 (by decide) (by decide) dX10_init_174 (fun q13 => ?_)
  refine gv_dup dX10_init_177 rfl ?_
  refine gv_ald 0 dX10_init_178 rfl rfl ?_
  refine gv_get (q0 := 0) dX10_init_179 fl_X10_30 rfl rfl ?_
  refine gv_ald 0 dX10_init_182 rfl rfl ?_
  refine gv_get (q0 := 0) dX10_init_183 fl_X10_38 rfl rfl ?_
  refine gv_call (M' := mX4_init) (ws := ((h0, .inr (10, [.ref q1, .ref q2, .ref q3, .ref q4, .ref q5, .ref q6, .ref q7, .ref q8, .ref q9, .int 0, .ref q10, .ref q11, .ref q12, .null, .long 0])) :: wX3 cT q1 u1 ++ wX5 cT q2 u2 ++ wX2 cT q3 u3 ++ wX2 cT q4 u4 ++ wX9 cT q5 u5 q4 ++ wX9 cT q6 u6 q4 ++ wX9 cT q7 u7 q4 ++ wX0 cT q8 u8 ++ wX8_2 cT q9 u9 ++ wX7 cT q10 u10 ++ wX6 cT q11 u11 q4 q5 q7 ++ wX1 cT q12 u12 q4 q5 q7)) (As := [.ref q4, .ref q5]) (h := q13) (e0 := .inr (4, [.null, .null, .int 0, .int 0, .int 0, .int 0])) (st := [.ref q13, .ref h0]) dX10_init_186 lk_X10_89 mi_X4 rfl (kX4 cT D q13 q4 q5) (by decide) (by decide) (by decide) (Nat.le_of_ble_eq_true rfl) (fun w13 hq13 => ?_)
  obtain ⟨u13, h9⟩ := hq13
  subst h9
  refine gv_eq ((h0, .inr (10, [.ref q1, .ref q2, .ref q3, .ref q4, .ref q5, .ref q6, .ref q7, .ref q8, .ref q9, .int 0, .ref q10, .ref q11, .ref q12, .null, .long 0])) :: wX3 cT q1 u1 ++ wX5 cT q2 u2 ++ wX2 cT q3 u3 ++ wX2 cT q4 u4 ++ wX9 cT q5 u5 q4 ++ wX9 cT q6 u6 q4 ++ wX9 cT q7 u7 q4 ++ wX0 cT q8 u8 ++ wX8_2 cT q9 u9 ++ wX7 cT q10 u10 ++ wX6 cT q11 u11 q4 q5 q7 ++ wX1 cT q12 u12 q4 q5 q7 ++ wX4 cT q13 u13 q4 q5) rfl ?_
  refine gv_putf (q0 := 0) dX10_init_189 ff_X10_92 rfl (Nat.le_of_ble_eq_true rfl) rfl rfl ?_
  refine gv_eq ((h0, .inr (10, [.ref q1, .ref q2, .ref q3, .ref q4, .ref q5, .ref q6, .ref q7, .ref q8, .ref q9, .int 0, .ref q10, .ref q11, .ref q12, .ref q13, .long 0])) :: wX3 cT q1 u1 ++ wX5 cT q2 u2 ++ wX2 cT q3 u3 ++ wX2 cT q4 u4 ++ wX9 cT q5 u5 q4 ++ wX9 cT q6 u6 q4 ++ wX9 cT q7 u7 q4 ++ wX0 cT q8 u8 ++ wX8_2 cT q9 u9 ++ wX7 cT q10 u10 ++ wX6 cT q11 u11 q4 q5 q7 ++ wX1 cT q12 u12 q4 q5 q7 ++ wX4 cT q13 u13 q4 q5) rfl ?_
  exact gv_ret dX10_init_192 rfl (by decide) (by decide) ⟨fun k => [q1, u1 0, q2, q3, u3 0, u3 1, u3 2, u3 3, u3 4, u3 5, q4, u4 0, u4 1, u4 2, u4 3, u4 4, u4 5, q5, u5 0, u5 1, u5 2, q6, u6 0, u6 1, u6 2, q7, u7 0, u7 1, u7 2, q8, u8 0, u8 1, q9, u9 0, q10, u10 0, u10 1, u10 2, q11, u11 0, u11 1, q12, q13].getD k 0, rfl⟩
def wX11 (cT : Nat → ClassId) (h0 : Nat) (u : Nat → Nat) : va_W := [(h0, .inr (11, [.int 0, .int 0, .ref (u 0), .ref (u 1), .ref (u 2), .ref (u 3), .ref (u 4), .ref (u 5), .ref (u 6), .ref (u 7), .int 0, .int 0, .ref (u 8), .int 0, .int 0, .int 0, .int 0, .int 0, .ref (u 9), .int 0, .ref (u 10), .ref (u 11), .ref (u 12), .long 0, .ref (u 13), .ref (u 14)])), (u 0, zA cT 0 5), (u 1, zA cT 0 5), (u 2, zA cT 0 4), (u 3, zA cT 0 4), (u 4, zA cT 0 30), (u 5, zA cT 0 15), (u 6, zA cT 0 8), (u 7, zA cT 0 4), (u 8, zA cT 0 60), (u 9, zA cT 0 210), (u 10, zA cT 0 6), (u 11, zA cT 0 6), (u 12, zA cT 0 6), (u 13, zA cT 1 2), (u 14, zA cT 0 30)]
set_option maxRecDepth 10000 in
theorem kX11 (cT : Nat → ClassId) (D : va_G) (h0 : Nat) : Kt cT D 1 15 395 mX11_init h0 [] (.inr (11, [.int 0, .int 0, .null, .null, .null, .null, .null, .null, .null, .null, .int 0, .int 0, .null, .int 0, .int 0, .int 0, .int 0, .int 0, .null, .int 0, .null, .null, .null, .long 0, .null, .null])) (fun w => ∃ u : Nat → Nat, w = wX11 cT h0 u ) := by
  refine kt_intro (by decide) rfl (Nat.le_of_ble_eq_true rfl) (ent_one rfl) ?_
  refine gv_ald 0 dX11_init_0 rfl rfl ?_
  refine gv_obj dX11_init_1 ob_X11 (by decide) (Nat.le_of_ble_eq_true rfl) ?_
  refine gv_ald 0 dX11_init_4 rfl rfl ?_
  refine gv_ic (v := 5) dX11_init_5 (by decide) ?_
  refine gv_newi 5 (by decide) (by decide) (by decide) (by decide) dX11_init_6 (fun q1 => ?_)
  refine gv_eq ((h0, .inr (11, [.int 0, .int 0, .null, .null, .null, .null, .null, .null, .null, .null, .int 0, .int 0, .null, .int 0, .int 0, .int 0, .int 0, .int 0, .null, .int 0, .null, .null, .null, .long 0, .null, .null])) :: [(q1, zA cT 0 5)]) rfl ?_
  refine gv_putf (q0 := 0) dX11_init_8 ff_X11_7 rfl (Nat.le_of_ble_eq_true rfl) rfl rfl ?_
  refine gv_eq ((h0, .inr (11, [.int 0, .int 0, .ref q1, .null, .null, .null, .null, .null, .null, .null, .int 0, .int 0, .null, .int 0, .int 0, .int 0, .int 0, .int 0, .null, .int 0, .null, .null, .null, .long 0, .null, .null])) :: [(q1, zA cT 0 5)]) rfl ?_
  refine gv_ald 0 dX11_init_11 rfl rfl ?_
  refine gv_ic (v := 5) dX11_init_12 (by decide) ?_
  refine gv_newi 5 (by decide) (by decide) (by decide) (by decide) dX11_init_13 (fun q2 => ?_)
  refine gv_eq ((h0, .inr (11, [.int 0, .int 0, .ref q1, .null, .null, .null, .null, .null, .null, .null, .int 0, .int 0, .null, .int 0, .int 0, .int 0, .int 0, .int 0, .null, .int 0, .null, .null, .null, .long 0, .null, .null])) :: [(q1, zA cT 0 5)] ++ [(q2, zA cT 0 5)]) rfl ?_
  refine gv_putf (q0 := 0) dX11_init_15 ff_X11_13 rfl (Nat.le_of_ble_eq_true rfl) rfl rfl ?_
  refine gv_eq ((h0, .inr (11, [.int 0, .int 0, .ref q1, .ref q2, .null, .null, .null, .null, .null, .null, .int 0, .int 0, .null, .int 0, .int 0, .int 0, .int 0, .int 0, .null, .int 0, .null, .null, .null, .long 0, .null, .null])) :: [(q1, zA cT 0 5)] ++ [(q2, zA cT 0 5)]) rfl ?_
  refine gv_ald 0 dX11_init_18 rfl rfl ?_
  refine gv_ic (v := 4) dX11_init_19 (by decide) ?_
  refine gv_newi 4 (by decide) (by decide) (by decide) (by decide) dX11_init_20 (fun q3 => ?_)
  refine gv_eq ((h0, .inr (11, [.int 0, .int 0, .ref q1, .ref q2, .null, .null, .null, .null, .null, .null, .int 0, .int 0, .null, .int 0, .int 0, .int 0, .int 0, .int 0, .null, .int 0, .null, .null, .null, .long 0, .null, .null])) :: [(q1, zA cT 0 5)] ++ [(q2, zA cT 0 5)] ++ [(q3, zA cT 0 4)]) rfl ?_
  refine gv_putf (q0 := 0) dX11_init_22 ff_X11_16 rfl (Nat.le_of_ble_eq_true rfl) rfl rfl ?_
  refine gv_eq ((h0, .inr (11, [.int 0, .int 0, .ref q1, .ref q2, .ref q3, .null, .null, .null, .null, .null, .int 0, .int 0, .null, .int 0, .int 0, .int 0, .int 0, .int 0, .null, .int 0, .null, .null, .null, .long 0, .null, .null])) :: [(q1, zA cT 0 5)] ++ [(q2, zA cT 0 5)] ++ [(q3, zA cT 0 4)]) rfl ?_
  refine gv_ald 0 dX11_init_25 rfl rfl ?_
  refine gv_ic (v := 4) dX11_init_26 (by decide) ?_
  refine gv_newi 4 (by decide) (by decide) (by decide) (by decide) dX11_init_27 (fun q4 => ?_)
  refine gv_eq ((h0, .inr (11, [.int 0, .int 0, .ref q1, .ref q2, .ref q3, .null, .null, .null, .null, .null, .int 0, .int 0, .null, .int 0, .int 0, .int 0, .int 0, .int 0, .null, .int 0, .null, .null, .null, .long 0, .null, .null])) :: [(q1, zA cT 0 5)] ++ [(q2, zA cT 0 5)] ++ [(q3, zA cT 0 4)] ++ [(q4, zA cT 0 4)]) rfl ?_
  refine gv_putf (q0 := 0) dX11_init_29 ff_X11_19 rfl (Nat.le_of_ble_eq_true rfl) rfl rfl ?_
  refine gv_eq ((h0, .inr (11, [.int 0, .int 0, .ref q1, .ref q2, .ref q3, .ref q4, .null, .null, .null, .null, .int 0, .int 0, .null, .int 0, .int 0, .int 0, .int 0, .int 0, .null, .int 0, .null, .null, .null, .long 0, .null, .null])) :: [(q1, zA cT 0 5)] ++ [(q2, zA cT 0 5)] ++ [(q3, zA cT 0 4)] ++ [(q4, zA cT 0 4)]) rfl ?_
  refine gv_ald 0 dX11_init_32 rfl rfl ?_
  refine gv_bi (v := 30) dX11_init_33 (by decide) ?_
  refine gv_newi 30 (by decide) (by decide) (by decide) (by decide) dX11_init_35 (fun q5 => ?_)
  refine gv_eq ((h0, .inr (11, [.int 0, .int 0, .ref q1, .ref q2, .ref q3, .ref q4, .null, .null, .null, .null, .int 0, .int 0, .null, .int 0, .int 0, .int 0, .int 0, .int 0, .null, .int 0, .null, .null, .null, .long 0, .null, .null])) :: [(q1, zA cT 0 5)] ++ [(q2, zA cT 0 5)] ++ [(q3, zA cT 0 4)] ++ [(q4, zA cT 0 4)] ++ [(q5, zA cT 0 30)]) rfl ?_
  refine gv_putf (q0 := 0) dX11_init_37 ff_X11_22 rfl (Nat.le_of_ble_eq_true rfl) rfl rfl ?_
  refine gv_eq ((h0, .inr (11, [.int 0, .int 0, .ref q1, .ref q2, .ref q3, .ref q4, .ref q5, .null, .null, .null, .int 0, .int 0, .null, .int 0, .int 0, .int 0, .int 0, .int 0, .null, .int 0, .null, .null, .null, .long 0, .null, .null])) :: [(q1, zA cT 0 5)] ++ [(q2, zA cT 0 5)] ++ [(q3, zA cT 0 4)] ++ [(q4, zA cT 0 4)] ++ [(q5, zA cT 0 30)]) rfl ?_
  refine gv_ald 0 dX11_init_40 rfl rfl ?_
  refine gv_bi (v := 15) dX11_init_41 (by decide) ?_
  refine gv_newi 15 (by decide) (by decide) (by decide) (by decide) dX11_init_43 (fun q6 => ?_)
  refine gv_eq ((h0, .inr (11, [.int 0, .int 0, .ref q1, .ref q2, .ref q3, .ref q4, .ref q5, .null, .null, .null, .int 0, .int 0, .null, .int 0, .int 0, .int 0, .int 0, .int 0, .null, .int 0, .null, .null, .null, .long 0, .null, .null])) :: [(q1, zA cT 0 5)] ++ [(q2, zA cT 0 5)] ++ [(q3, zA cT 0 4)] ++ [(q4, zA cT 0 4)] ++ [(q5, zA cT 0 30)] ++ [(q6, zA cT 0 15)]) rfl ?_
  refine gv_putf (q0 := 0) dX11_init_45 ff_X11_25 rfl (Nat.le_of_ble_eq_true rfl) rfl rfl ?_
  refine gv_eq ((h0, .inr (11, [.int 0, .int 0, .ref q1, .ref q2, .ref q3, .ref q4, .ref q5, .ref q6, .null, .null, .int 0, .int 0, .null, .int 0, .int 0, .int 0, .int 0, .int 0, .null, .int 0, .null, .null, .null, .long 0, .null, .null])) :: [(q1, zA cT 0 5)] ++ [(q2, zA cT 0 5)] ++ [(q3, zA cT 0 4)] ++ [(q4, zA cT 0 4)] ++ [(q5, zA cT 0 30)] ++ [(q6, zA cT 0 15)]) rfl ?_
  refine gv_ald 0 dX11_init_48 rfl rfl ?_
  refine gv_bi (v := 8) dX11_init_49 (by decide) ?_
  refine gv_newi 8 (by decide) (by decide) (by decide) (by decide) dX11_init_51 (fun q7 => ?_)
  refine gv_eq ((h0, .inr (11, [.int 0, .int 0, .ref q1, .ref q2, .ref q3, .ref q4, .ref q5, .ref q6, .null, .null, .int 0, .int 0, .null, .int 0, .int 0, .int 0, .int 0, .int 0, .null, .int 0, .null, .null, .null, .long 0, .null, .null])) :: [(q1, zA cT 0 5)] ++ [(q2, zA cT 0 5)] ++ [(q3, zA cT 0 4)] ++ [(q4, zA cT 0 4)] ++ [(q5, zA cT 0 30)] ++ [(q6, zA cT 0 15)] ++ [(q7, zA cT 0 8)]) rfl ?_
  refine gv_putf (q0 := 0) dX11_init_53 ff_X11_28 rfl (Nat.le_of_ble_eq_true rfl) rfl rfl ?_
  refine gv_eq ((h0, .inr (11, [.int 0, .int 0, .ref q1, .ref q2, .ref q3, .ref q4, .ref q5, .ref q6, .ref q7, .null, .int 0, .int 0, .null, .int 0, .int 0, .int 0, .int 0, .int 0, .null, .int 0, .null, .null, .null, .long 0, .null, .null])) :: [(q1, zA cT 0 5)] ++ [(q2, zA cT 0 5)] ++ [(q3, zA cT 0 4)] ++ [(q4, zA cT 0 4)] ++ [(q5, zA cT 0 30)] ++ [(q6, zA cT 0 15)] ++ [(q7, zA cT 0 8)]) rfl ?_
  refine gv_ald 0 dX11_init_56 rfl rfl ?_
  refine gv_ic (v := 4) dX11_init_57 (by decide) ?_
  refine gv_newi 4 (by decide) (by decide) (by decide) (by decide) dX11_init_58 (fun q8 => ?_)
  refine gv_eq ((h0, .inr (11, [.int 0, .int 0, .ref q1, .ref q2, .ref q3, .ref q4, .ref q5, .ref q6, .ref q7, .null, .int 0, .int 0, .null, .int 0, .int 0, .int 0, .int 0, .int 0, .null, .int 0, .null, .null, .null, .long 0, .null, .null])) :: [(q1, zA cT 0 5)] ++ [(q2, zA cT 0 5)] ++ [(q3, zA cT 0 4)] ++ [(q4, zA cT 0 4)] ++ [(q5, zA cT 0 30)] ++ [(q6, zA cT 0 15)] ++ [(q7, zA cT 0 8)] ++ [(q8, zA cT 0 4)]) rfl ?_
  refine gv_putf (q0 := 0) dX11_init_60 ff_X11_31 rfl (Nat.le_of_ble_eq_true rfl) rfl rfl ?_
  refine gv_eq ((h0, .inr (11, [.int 0, .int 0, .ref q1, .ref q2, .ref q3, .ref q4, .ref q5, .ref q6, .ref q7, .ref q8, .int 0, .int 0, .null, .int 0, .int 0, .int 0, .int 0, .int 0, .null, .int 0, .null, .null, .null, .long 0, .null, .null])) :: [(q1, zA cT 0 5)] ++ [(q2, zA cT 0 5)] ++ [(q3, zA cT 0 4)] ++ [(q4, zA cT 0 4)] ++ [(q5, zA cT 0 30)] ++ [(q6, zA cT 0 15)] ++ [(q7, zA cT 0 8)] ++ [(q8, zA cT 0 4)]) rfl ?_
  refine gv_ald 0 dX11_init_63 rfl rfl ?_
  refine gv_bi (v := 60) dX11_init_64 (by decide) ?_
  refine gv_newi 60 (by decide) (by decide) (by decide) (by decide) dX11_init_66 (fun q9 => ?_)
  refine gv_eq ((h0, .inr (11, [.int 0, .int 0, .ref q1, .ref q2, .ref q3, .ref q4, .ref q5, .ref q6, .ref q7, .ref q8, .int 0, .int 0, .null, .int 0, .int 0, .int 0, .int 0, .int 0, .null, .int 0, .null, .null, .null, .long 0, .null, .null])) :: [(q1, zA cT 0 5)] ++ [(q2, zA cT 0 5)] ++ [(q3, zA cT 0 4)] ++ [(q4, zA cT 0 4)] ++ [(q5, zA cT 0 30)] ++ [(q6, zA cT 0 15)] ++ [(q7, zA cT 0 8)] ++ [(q8, zA cT 0 4)] ++ [(q9, zA cT 0 60)]) rfl ?_
  refine gv_putf (q0 := 0) dX11_init_68 ff_X11_34 rfl (Nat.le_of_ble_eq_true rfl) rfl rfl ?_
  refine gv_eq ((h0, .inr (11, [.int 0, .int 0, .ref q1, .ref q2, .ref q3, .ref q4, .ref q5, .ref q6, .ref q7, .ref q8, .int 0, .int 0, .ref q9, .int 0, .int 0, .int 0, .int 0, .int 0, .null, .int 0, .null, .null, .null, .long 0, .null, .null])) :: [(q1, zA cT 0 5)] ++ [(q2, zA cT 0 5)] ++ [(q3, zA cT 0 4)] ++ [(q4, zA cT 0 4)] ++ [(q5, zA cT 0 30)] ++ [(q6, zA cT 0 15)] ++ [(q7, zA cT 0 8)] ++ [(q8, zA cT 0 4)] ++ [(q9, zA cT 0 60)]) rfl ?_
  refine gv_ald 0 dX11_init_71 rfl rfl ?_
  refine gv_si (v := 210) dX11_init_72 (by decide) ?_
  refine gv_newi 210 (by decide) (by decide) (by decide) (by decide) dX11_init_75 (fun q10 => ?_)
  refine gv_eq ((h0, .inr (11, [.int 0, .int 0, .ref q1, .ref q2, .ref q3, .ref q4, .ref q5, .ref q6, .ref q7, .ref q8, .int 0, .int 0, .ref q9, .int 0, .int 0, .int 0, .int 0, .int 0, .null, .int 0, .null, .null, .null, .long 0, .null, .null])) :: [(q1, zA cT 0 5)] ++ [(q2, zA cT 0 5)] ++ [(q3, zA cT 0 4)] ++ [(q4, zA cT 0 4)] ++ [(q5, zA cT 0 30)] ++ [(q6, zA cT 0 15)] ++ [(q7, zA cT 0 8)] ++ [(q8, zA cT 0 4)] ++ [(q9, zA cT 0 60)] ++ [(q10, zA cT 0 210)]) rfl ?_
  refine gv_putf (q0 := 0) dX11_init_77 ff_X11_37 rfl (Nat.le_of_ble_eq_true rfl) rfl rfl ?_
  refine gv_eq ((h0, .inr (11, [.int 0, .int 0, .ref q1, .ref q2, .ref q3, .ref q4, .ref q5, .ref q6, .ref q7, .ref q8, .int 0, .int 0, .ref q9, .int 0, .int 0, .int 0, .int 0, .int 0, .ref q10, .int 0, .null, .null, .null, .long 0, .null, .null])) :: [(q1, zA cT 0 5)] ++ [(q2, zA cT 0 5)] ++ [(q3, zA cT 0 4)] ++ [(q4, zA cT 0 4)] ++ [(q5, zA cT 0 30)] ++ [(q6, zA cT 0 15)] ++ [(q7, zA cT 0 8)] ++ [(q8, zA cT 0 4)] ++ [(q9, zA cT 0 60)] ++ [(q10, zA cT 0 210)]) rfl ?_
  refine gv_ald 0 dX11_init_80 rfl rfl ?_
  refine gv_bi (v := 6) dX11_init_81 (by decide) ?_
  refine gv_newi 6 (by decide) (by decide) (by decide) (by decide) dX11_init_83 (fun q11 => ?_)
  refine gv_eq ((h0, .inr (11, [.int 0, .int 0, .ref q1, .ref q2, .ref q3, .ref q4, .ref q5, .ref q6, .ref q7, .ref q8, .int 0, .int 0, .ref q9, .int 0, .int 0, .int 0, .int 0, .int 0, .ref q10, .int 0, .null, .null, .null, .long 0, .null, .null])) :: [(q1, zA cT 0 5)] ++ [(q2, zA cT 0 5)] ++ [(q3, zA cT 0 4)] ++ [(q4, zA cT 0 4)] ++ [(q5, zA cT 0 30)] ++ [(q6, zA cT 0 15)] ++ [(q7, zA cT 0 8)] ++ [(q8, zA cT 0 4)] ++ [(q9, zA cT 0 60)] ++ [(q10, zA cT 0 210)] ++ [(q11, zA cT 0 6)]) rfl ?_
  refine gv_putf (q0 := 0) dX11_init_85 ff_X11_40 rfl (Nat.le_of_ble_eq_true rfl) rfl rfl ?_
  refine gv_eq ((h0, .inr (11, [.int 0, .int 0, .ref q1, .ref q2, .ref q3, .ref q4, .ref q5, .ref q6, .ref q7, .ref q8, .int 0, .int 0, .ref q9, .int 0, .int 0, .int 0, .int 0, .int 0, .ref q10, .int 0, .ref q11, .null, .null, .long 0, .null, .null])) :: [(q1, zA cT 0 5)] ++ [(q2, zA cT 0 5)] ++ [(q3, zA cT 0 4)] ++ [(q4, zA cT 0 4)] ++ [(q5, zA cT 0 30)] ++ [(q6, zA cT 0 15)] ++ [(q7, zA cT 0 8)] ++ [(q8, zA cT 0 4)] ++ [(q9, zA cT 0 60)] ++ [(q10, zA cT 0 210)] ++ [(q11, zA cT 0 6)]) rfl ?_
  refine gv_ald 0 dX11_init_88 rfl rfl ?_
  refine gv_bi (v := 6) dX11_init_89 (by decide) ?_
  refine gv_newi 6 (by decide) (by decide) (by decide) (by decide) dX11_init_91 (fun q12 => ?_)
  refine gv_eq ((h0, .inr (11, [.int 0, .int 0, .ref q1, .ref q2, .ref q3, .ref q4, .ref q5, .ref q6, .ref q7, .ref q8, .int 0, .int 0, .ref q9, .int 0, .int 0, .int 0, .int 0, .int 0, .ref q10, .int 0, .ref q11, .null, .null, .long 0, .null, .null])) :: [(q1, zA cT 0 5)] ++ [(q2, zA cT 0 5)] ++ [(q3, zA cT 0 4)] ++ [(q4, zA cT 0 4)] ++ [(q5, zA cT 0 30)] ++ [(q6, zA cT 0 15)] ++ [(q7, zA cT 0 8)] ++ [(q8, zA cT 0 4)] ++ [(q9, zA cT 0 60)] ++ [(q10, zA cT 0 210)] ++ [(q11, zA cT 0 6)] ++ [(q12, zA cT 0 6)]) rfl ?_
  refine gv_putf (q0 := 0) dX11_init_93 ff_X11_43 rfl (Nat.le_of_ble_eq_true rfl) rfl rfl ?_
  refine gv_eq ((h0, .inr (11, [.int 0, .int 0, .ref q1, .ref q2, .ref q3, .ref q4, .ref q5, .ref q6, .ref q7, .ref q8, .int 0, .int 0, .ref q9, .int 0, .int 0, .int 0, .int 0, .int 0, .ref q10, .int 0, .ref q11, .ref q12, .null, .long 0, .null, .null])) :: [(q1, zA cT 0 5)] ++ [(q2, zA cT 0 5)] ++ [(q3, zA cT 0 4)] ++ [(q4, zA cT 0 4)] ++ [(q5, zA cT 0 30)] ++ [(q6, zA cT 0 15)] ++ [(q7, zA cT 0 8)] ++ [(q8, zA cT 0 4)] ++ [(q9, zA cT 0 60)] ++ [(q10, zA cT 0 210)] ++ [(q11, zA cT 0 6)] ++ [(q12, zA cT 0 6)]) rfl ?_
  refine gv_ald 0 dX11_init_96 rfl rfl ?_
  refine gv_bi (v := 6) dX11_init_97 (by decide) ?_
  refine gv_newi 6 (by decide) (by decide) (by decide) (by decide) dX11_init_99 (fun q13 => ?_)
  refine gv_eq ((h0, .inr (11, [.int 0, .int 0, .ref q1, .ref q2, .ref q3, .ref q4, .ref q5, .ref q6, .ref q7, .ref q8, .int 0, .int 0, .ref q9, .int 0, .int 0, .int 0, .int 0, .int 0, .ref q10, .int 0, .ref q11, .ref q12, .null, .long 0, .null, .null])) :: [(q1, zA cT 0 5)] ++ [(q2, zA cT 0 5)] ++ [(q3, zA cT 0 4)] ++ [(q4, zA cT 0 4)] ++ [(q5, zA cT 0 30)] ++ [(q6, zA cT 0 15)] ++ [(q7, zA cT 0 8)] ++ [(q8, zA cT 0 4)] ++ [(q9, zA cT 0 60)] ++ [(q10, zA cT 0 210)] ++ [(q11, zA cT 0 6)] ++ [(q12, zA cT 0 6)] ++ [(q13, zA cT 0 6)]) rfl ?_
  refine gv_putf (q0 := 0) dX11_init_101 ff_X11_46 rfl (Nat.le_of_ble_eq_true rfl) rfl rfl ?_
  refine gv_eq ((h0, .inr (11, [.int 0, .int 0, .ref q1, .ref q2, .ref q3, .ref q4, .ref q5, .ref q6, .ref q7, .ref q8, .int 0, .int 0, .ref q9, .int 0, .int 0, .int 0, .int 0, .int 0, .ref q10, .int 0, .ref q11, .ref q12, .ref q13, .long 0, .null, .null])) :: [(q1, zA cT 0 5)] ++ [(q2, zA cT 0 5)] ++ [(q3, zA cT 0 4)] ++ [(q4, zA cT 0 4)] ++ [(q5, zA cT 0 30)] ++ [(q6, zA cT 0 15)] ++ [(q7, zA cT 0 8)] ++ [(q8, zA cT 0 4)] ++ [(q9, zA cT 0 60)] ++ [(q10, zA cT 0 210)] ++ [(q11, zA cT 0 6)] ++ [(q12, zA cT 0 6)] ++ [(q13, zA cT 0 6)]) rfl ?_
  refine gv_ald 0 dX11_init_104 rfl rfl ?_
  refine gv_ic (v := 2) dX11_init_105 (by decide) ?_
  refine gv_newz 2 (by decide) (by decide) (by decide) (by decide) dX11_init_106 (fun q14 => ?_)
  refine gv_eq ((h0, .inr (11, [.int 0, .int 0, .ref q1, .ref q2, .ref q3, .ref q4, .ref q5, .ref q6, .ref q7, .ref q8, .int 0, .int 0, .ref q9, .int 0, .int 0, .int 0, .int 0, .int 0, .ref q10, .int 0, .ref q11, .ref q12, .ref q13, .long 0, .null, .null])) :: [(q1, zA cT 0 5)] ++ [(q2, zA cT 0 5)] ++ [(q3, zA cT 0 4)] ++ [(q4, zA cT 0 4)] ++ [(q5, zA cT 0 30)] ++ [(q6, zA cT 0 15)] ++ [(q7, zA cT 0 8)] ++ [(q8, zA cT 0 4)] ++ [(q9, zA cT 0 60)] ++ [(q10, zA cT 0 210)] ++ [(q11, zA cT 0 6)] ++ [(q12, zA cT 0 6)] ++ [(q13, zA cT 0 6)] ++ [(q14, zA cT 1 2)]) rfl ?_
  refine gv_putf (q0 := 0) dX11_init_108 ff_X11_49 rfl (Nat.le_of_ble_eq_true rfl) rfl rfl ?_
  refine gv_eq ((h0, .inr (11, [.int 0, .int 0, .ref q1, .ref q2, .ref q3, .ref q4, .ref q5, .ref q6, .ref q7, .ref q8, .int 0, .int 0, .ref q9, .int 0, .int 0, .int 0, .int 0, .int 0, .ref q10, .int 0, .ref q11, .ref q12, .ref q13, .long 0, .ref q14, .null])) :: [(q1, zA cT 0 5)] ++ [(q2, zA cT 0 5)] ++ [(q3, zA cT 0 4)] ++ [(q4, zA cT 0 4)] ++ [(q5, zA cT 0 30)] ++ [(q6, zA cT 0 15)] ++ [(q7, zA cT 0 8)] ++ [(q8, zA cT 0 4)] ++ [(q9, zA cT 0 60)] ++ [(q10, zA cT 0 210)] ++ [(q11, zA cT 0 6)] ++ [(q12, zA cT 0 6)] ++ [(q13, zA cT 0 6)] ++ [(q14, zA cT 1 2)]) rfl ?_
  refine gv_ald 0 dX11_init_111 rfl rfl ?_
  refine gv_bi (v := 30) dX11_init_112 (by decide) ?_
  refine gv_newi 30 (by decide) (by decide) (by decide) (by decide) dX11_init_114 (fun q15 => ?_)
  refine gv_eq ((h0, .inr (11, [.int 0, .int 0, .ref q1, .ref q2, .ref q3, .ref q4, .ref q5, .ref q6, .ref q7, .ref q8, .int 0, .int 0, .ref q9, .int 0, .int 0, .int 0, .int 0, .int 0, .ref q10, .int 0, .ref q11, .ref q12, .ref q13, .long 0, .ref q14, .null])) :: [(q1, zA cT 0 5)] ++ [(q2, zA cT 0 5)] ++ [(q3, zA cT 0 4)] ++ [(q4, zA cT 0 4)] ++ [(q5, zA cT 0 30)] ++ [(q6, zA cT 0 15)] ++ [(q7, zA cT 0 8)] ++ [(q8, zA cT 0 4)] ++ [(q9, zA cT 0 60)] ++ [(q10, zA cT 0 210)] ++ [(q11, zA cT 0 6)] ++ [(q12, zA cT 0 6)] ++ [(q13, zA cT 0 6)] ++ [(q14, zA cT 1 2)] ++ [(q15, zA cT 0 30)]) rfl ?_
  refine gv_putf (q0 := 0) dX11_init_116 ff_X11_53 rfl (Nat.le_of_ble_eq_true rfl) rfl rfl ?_
  refine gv_eq ((h0, .inr (11, [.int 0, .int 0, .ref q1, .ref q2, .ref q3, .ref q4, .ref q5, .ref q6, .ref q7, .ref q8, .int 0, .int 0, .ref q9, .int 0, .int 0, .int 0, .int 0, .int 0, .ref q10, .int 0, .ref q11, .ref q12, .ref q13, .long 0, .ref q14, .ref q15])) :: [(q1, zA cT 0 5)] ++ [(q2, zA cT 0 5)] ++ [(q3, zA cT 0 4)] ++ [(q4, zA cT 0 4)] ++ [(q5, zA cT 0 30)] ++ [(q6, zA cT 0 15)] ++ [(q7, zA cT 0 8)] ++ [(q8, zA cT 0 4)] ++ [(q9, zA cT 0 60)] ++ [(q10, zA cT 0 210)] ++ [(q11, zA cT 0 6)] ++ [(q12, zA cT 0 6)] ++ [(q13, zA cT 0 6)] ++ [(q14, zA cT 1 2)] ++ [(q15, zA cT 0 30)]) rfl ?_
  refine gv_ald 0 dX11_init_119 rfl rfl ?_
  refine gv_ic (v := 0) dX11_init_120 (by decide) ?_
  refine gv_puti (q0 := 0) dX11_init_121 fp_X11_56 rfl (Nat.le_of_ble_eq_true rfl) ?_
  refine gv_eq ((h0, .inr (11, [.int 0, .int 0, .ref q1, .ref q2, .ref q3, .ref q4, .ref q5, .ref q6, .ref q7, .ref q8, .int 0, .int 0, .ref q9, .int 0, .int 0, .int 0, .int 0, .int 0, .ref q10, .int 0, .ref q11, .ref q12, .ref q13, .long 0, .ref q14, .ref q15])) :: [(q1, zA cT 0 5)] ++ [(q2, zA cT 0 5)] ++ [(q3, zA cT 0 4)] ++ [(q4, zA cT 0 4)] ++ [(q5, zA cT 0 30)] ++ [(q6, zA cT 0 15)] ++ [(q7, zA cT 0 8)] ++ [(q8, zA cT 0 4)] ++ [(q9, zA cT 0 60)] ++ [(q10, zA cT 0 210)] ++ [(q11, zA cT 0 6)] ++ [(q12, zA cT 0 6)] ++ [(q13, zA cT 0 6)] ++ [(q14, zA cT 1 2)] ++ [(q15, zA cT 0 30)]) rfl ?_
  exact gv_ret dX11_init_124 rfl (by decide) (by decide) ⟨fun k => [q1, q2, q3, q4, q5, q6, q7, q8, q9, q10, q11, q12, q13, q14, q15].getD k 0, rfl⟩
