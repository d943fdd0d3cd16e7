def bsX4 : List Cond := (vx_atS RX11 349 "java/lang/UnsupportedOperationException" ["java/lang/RuntimeException", "java/lang/Exception"]).filter goodWord
def bsX5 : List Cond := (vx_atS RX11 556 "java/lang/ClassCastException" ["java/lang/RuntimeException", "java/lang/Exception"]).filter goodWord
def bs2 : List Cond := HAppend.hAppend (α := List Cond) (β := List Cond) (γ := List Cond) bs (HAppend.hAppend (α := List Cond) (β := List Cond) (γ := List Cond) bsX4 (HAppend.hAppend (α := List Cond) (β := List Cond) (γ := List Cond) bsX5 wsX10))
theorem bs2_good : bs2.all goodWord = true := by decide +kernel
theorem bs2_in (c : Cond) (l : List Cond) : GoodIn (c :: (l ++ bs2)) bs2 := goodIn_sub (fun _ h => List.mem_cons_of_mem _ (List.mem_append_right _ h)) bs2_good
theorem bs_in2 (c : Cond) (l : List Cond) : GoodIn (c :: (l ++ bs2)) bs := fun w h => bs2_in c l w (List.mem_append_left _ h)
theorem in2 {w c : Cond} {l : List Cond} (h : w ∈ bs) : w ∈ c :: (l ++ bs2) := List.mem_cons_of_mem _ (List.mem_append_right _ (List.mem_append_left _ h))
theorem bF2_X0 {c : Cond} {l : List Cond} : ∀ w ∈ wsX00, w ∈ c :: (l ++ bs2) := fun _ h => in2 (List.mem_append_left _ (List.mem_append_left _ h))
theorem bF2_X2 {c : Cond} {l : List Cond} : ∀ w ∈ wsX20, w ∈ c :: (l ++ bs2) := fun _ h => in2 (List.mem_append_left _ (List.mem_append_right _ (List.mem_append_left _ h)))
theorem bF2_X3 {c : Cond} {l : List Cond} : ∀ w ∈ wsX30, w ∈ c :: (l ++ bs2) := fun _ h => in2 (List.mem_append_left _ (List.mem_append_right _ (List.mem_append_right _ (List.mem_append_left _ h))))
theorem bF2_X4 {c : Cond} {l : List Cond} : ∀ w ∈ wsX40, w ∈ c :: (l ++ bs2) := fun _ h => in2 (List.mem_append_left _ (List.mem_append_right _ (List.mem_append_right _ (List.mem_append_right _ (List.mem_append_left _ h)))))
theorem bF2_X5 {c : Cond} {l : List Cond} : ∀ w ∈ wsX50, w ∈ c :: (l ++ bs2) := fun _ h => in2 (List.mem_append_left _ (List.mem_append_right _ (List.mem_append_right _ (List.mem_append_right _ (List.mem_append_right _ (List.mem_append_left _ h))))))
theorem bF2_X6 {c : Cond} {l : List Cond} : ∀ w ∈ wsX60, w ∈ c :: (l ++ bs2) := fun _ h => in2 (List.mem_append_left _ (List.mem_append_right _ (List.mem_append_right _ (List.mem_append_right _ (List.mem_append_right _ (List.mem_append_right _ (List.mem_append_left _ h)))))))
theorem bF2_X7 {c : Cond} {l : List Cond} : ∀ w ∈ wsX70, w ∈ c :: (l ++ bs2) := fun _ h => in2 (List.mem_append_left _ (List.mem_append_right _ (List.mem_append_right _ (List.mem_append_right _ (List.mem_append_right _ (List.mem_append_right _ (List.mem_append_right _ (List.mem_append_left _ h))))))))
theorem bF2_X8 {c : Cond} {l : List Cond} : ∀ w ∈ wsX80, w ∈ c :: (l ++ bs2) := fun _ h => in2 (List.mem_append_left _ (List.mem_append_right _ (List.mem_append_right _ (List.mem_append_right _ (List.mem_append_right _ (List.mem_append_right _ (List.mem_append_right _ (List.mem_append_right _ (List.mem_append_left _ h)))))))))
theorem bF2_X9 {c : Cond} {l : List Cond} : ∀ w ∈ wsX90, w ∈ c :: (l ++ bs2) := fun _ h => in2 (List.mem_append_left _ (List.mem_append_right _ (List.mem_append_right _ (List.mem_append_right _ (List.mem_append_right _ (List.mem_append_right _ (List.mem_append_right _ (List.mem_append_right _ (List.mem_append_right _ (List.mem_append_left _ h))))))))))
theorem bF2_X10 {c : Cond} {l : List Cond} : ∀ w ∈ wsX100, w ∈ c :: (l ++ bs2) := fun _ h => in2 (List.mem_append_left _ (List.mem_append_right _ (List.mem_append_right _ (List.mem_append_right _ (List.mem_append_right _ (List.mem_append_right _ (List.mem_append_right _ (List.mem_append_right _ (List.mem_append_right _ (List.mem_append_right _ (List.mem_append_left _ h)))))))))))
theorem bF2_X11 {c : Cond} {l : List Cond} : ∀ w ∈ wsX110, w ∈ c :: (l ++ bs2) := fun _ h => in2 (List.mem_append_left _ (List.mem_append_right _ (List.mem_append_right _ (List.mem_append_right _ (List.mem_append_right _ (List.mem_append_right _ (List.mem_append_right _ (List.mem_append_right _ (List.mem_append_right _ (List.mem_append_right _ (List.mem_append_right _ (List.mem_append_left _ h))))))))))))
theorem bF2_X12 {c : Cond} {l : List Cond} : ∀ w ∈ wsX120, w ∈ c :: (l ++ bs2) := fun _ h => in2 (List.mem_append_left _ (List.mem_append_right _ (List.mem_append_right _ (List.mem_append_right _ (List.mem_append_right _ (List.mem_append_right _ (List.mem_append_right _ (List.mem_append_right _ (List.mem_append_right _ (List.mem_append_right _ (List.mem_append_right _ (List.mem_append_right _ h))))))))))))
theorem bX2_0 {c : Cond} {l : List Cond} : ∀ w ∈ bsX0, w ∈ c :: (l ++ bs2) := fun _ h => in2 (List.mem_append_right _ (List.mem_append_left _ h))
theorem bX2_1 {c : Cond} {l : List Cond} : ∀ w ∈ bsX1, w ∈ c :: (l ++ bs2) := fun _ h => in2 (List.mem_append_right _ (List.mem_append_right _ (List.mem_append_left _ h)))
theorem bX2_2 {c : Cond} {l : List Cond} : ∀ w ∈ bsX2, w ∈ c :: (l ++ bs2) := fun _ h => in2 (List.mem_append_right _ (List.mem_append_right _ (List.mem_append_right _ (List.mem_append_left _ h))))
theorem bX2_3 {c : Cond} {l : List Cond} : ∀ w ∈ bsX3, w ∈ c :: (l ++ bs2) := fun _ h => in2 (List.mem_append_right _ (List.mem_append_right _ (List.mem_append_right _ (List.mem_append_right _ h))))
theorem bX2_4 {c : Cond} {l : List Cond} : ∀ w ∈ bsX4, w ∈ c :: (l ++ bs2) := fun _ h => List.mem_cons_of_mem _ (List.mem_append_right _ (List.mem_append_right _ (List.mem_append_left _ h)))
theorem bX2_5 {c : Cond} {l : List Cond} : ∀ w ∈ bsX5, w ∈ c :: (l ++ bs2) := fun _ h => List.mem_cons_of_mem _ (List.mem_append_right _ (List.mem_append_right _ (List.mem_append_right _ (List.mem_append_left _ h))))
theorem bF2_X1 {c : Cond} {l : List Cond} : ∀ w ∈ wsX10, w ∈ c :: (l ++ bs2) := fun _ h => List.mem_cons_of_mem _ (List.mem_append_right _ (List.mem_append_right _ (List.mem_append_right _ (List.mem_append_right _ h))))
theorem ht_at2 {c : Cond} {l : List Cond} {args : Array Value} {s : State} {w : Cond} (hts : ∀ w ∈ c :: (l ++ bs2), w.before args s = true) (i : Nat) (h : l[i]? = some w) : w.before args s = true := hts w (List.mem_cons_of_mem _ (List.mem_append_left _ (List.mem_of_getElem? h)))
def exT2 : List String := ["java/lang/UnsupportedOperationException", "java/lang/ClassCastException"]
def EVC (adK adV : Nat → Nat) (A : Nat → Prop) (U : State) (H : Heap) : Prop := EVS adK adV A U H ∧ ∀ E ∈ exT2, va_Nw (.castable E E) U
theorem EVC.blind {adK adV : Nat → Nat} {A : Nat → Prop} {U : State} (g : JFrame) (mk : MethodId) (a : Array Value) (h : EVC adK adV A U U.heap) : EVC adK adV A (U.calling g mk a) (U.calling g mk a).heap := ⟨EVS.blind g mk a h.1, fun E hE => va_Nw.same (u := U) rfl rfl (h.2 E hE)⟩
theorem EVC.call {adK adV : Nat → Nat} {A A' : Nat → Prop} {s U : State} {H : Heap} {locs : List Loc} (h : EVC adK adV A s s.heap) (hS : va_S A s.heap H locs) (hA : ∀ q, A' q → A q) (hU : U.heap = H) (hW : s.WarmedH U.vm) : EVC adK adV A' U U.heap := ⟨EVS.call h.1 hS hA hU hW, fun E hE => va_Nw.warmC hW (h.2 E hE)⟩
theorem EVC.nm {adK adV : Nat → Nat} {A : Nat → Prop} {U : State} {H : Heap} (h : EVC adK adV A U H) (k : Nat) {w : Cond} (hw : nwT[k]? = some w) : va_Nw w U := EV.nm h.1.1 k hw
theorem EVC.nw {adK adV : Nat → Nat} {A : Nat → Prop} {U : State} {H : Heap} {args : Array Value} (h : EVC adK adV A U H) (k : Nat) {w : Cond} (hw : nwT[k]? = some w) : w.before args U = true := EV.nw h.1.1 k hw
theorem EVC.str {adK adV : Nat → Nat} {A : Nat → Prop} {U : State} {H : Heap} (h : EVC adK adV A U H) (k : Nat) {q : Nat × String} (hq : strT[k]? = some q) : ∃ a : Nat, vk_R RX11 q.1 q.2 a U := EV.str h.1.1 k hq
theorem EVC.recv {adK adV : Nat → Nat} {A : Nat → Prop} {s : State} {H : Heap} {locs : List Loc} {i : Nat} (h : EVC adK adV A s s.heap) (hi : i < 48) (hS : va_S A s.heap H locs) : ∃ cell : Cell, H[adK i]? = some cell ∧ cell.vm.isStatics = false ∧ s.vm.findClass "java/lang/String" = some cell.cls := h.1.recv hi hS
theorem bX2_at0 {c : Cond} {l : List Cond} {args : Array Value} {adK adV : Nat → Nat} {A : Nat → Prop} {s : State} {H : Heap} (hts : ∀ w ∈ c :: (l ++ bs2), w.before args s = true) (hE : EVC adK adV A s H) : ∀ w ∈ vx_atS RX11 561 "java/lang/IndexOutOfBoundsException" ["java/lang/RuntimeException", "java/lang/Exception"], w.before args s = true := vx_hat (fun w h => hts w (bX2_0 w h)) (B := [.castable "java/lang/IndexOutOfBoundsException" "java/lang/IndexOutOfBoundsException", .declares (Bundle.initS "java/lang/RuntimeException"), .declares (Bundle.initS "java/lang/Exception"), .declares (Bundle.initS "java/lang/Throwable")]) (by decide +kernel) (vx_c (va_Nw.use rfl (hE.1.1.2.1.2.1 "java/lang/IndexOutOfBoundsException" (List.mem_of_getElem? (i := 0) rfl))) (vx_c (va_Nw.use rfl (hE.1.1.2.1.2.2 _ (List.mem_of_getElem? (i := 0) rfl))) (vx_c (va_Nw.use rfl (hE.1.1.2.1.2.2 _ (List.mem_of_getElem? (i := 1) rfl))) (vx_c (va_Nw.use rfl (hE.1.1.2.1.2.2 _ (List.mem_of_getElem? (i := 2) rfl))) vx_n))))
theorem bX2_at1 {c : Cond} {l : List Cond} {args : Array Value} {adK adV : Nat → Nat} {A : Nat → Prop} {s : State} {H : Heap} (hts : ∀ w ∈ c :: (l ++ bs2), w.before args s = true) (hE : EVC adK adV A s H) : ∀ w ∈ vx_atS RX11 551 "java/lang/IllegalArgumentException" ["java/lang/RuntimeException", "java/lang/Exception"], w.before args s = true := vx_hat (fun w h => hts w (bX2_1 w h)) (B := [.castable "java/lang/IllegalArgumentException" "java/lang/IllegalArgumentException", .declares (Bundle.initS "java/lang/RuntimeException"), .declares (Bundle.initS "java/lang/Exception"), .declares (Bundle.initS "java/lang/Throwable")]) (by decide +kernel) (vx_c (va_Nw.use rfl (hE.1.1.2.1.2.1 "java/lang/IllegalArgumentException" (List.mem_of_getElem? (i := 1) rfl))) (vx_c (va_Nw.use rfl (hE.1.1.2.1.2.2 _ (List.mem_of_getElem? (i := 0) rfl))) (vx_c (va_Nw.use rfl (hE.1.1.2.1.2.2 _ (List.mem_of_getElem? (i := 1) rfl))) (vx_c (va_Nw.use rfl (hE.1.1.2.1.2.2 _ (List.mem_of_getElem? (i := 2) rfl))) vx_n))))
theorem bX2_at2 {c : Cond} {l : List Cond} {args : Array Value} {adK adV : Nat → Nat} {A : Nat → Prop} {s : State} {H : Heap} (hts : ∀ w ∈ c :: (l ++ bs2), w.before args s = true) (hE : EVC adK adV A s H) : ∀ w ∈ vy_atS RX11 138 "java/util/NoSuchElementException" 13 rxN ["java/lang/RuntimeException", "java/lang/Exception"], w.before args s = true := vx_hat (fun w h => hts w (bX2_2 w h)) (B := [.castable "java/util/NoSuchElementException" "java/util/NoSuchElementException", .declares (Bundle.initS "java/lang/RuntimeException"), .declares (Bundle.initS "java/lang/Exception"), .declares (Bundle.initS "java/lang/Throwable")]) (by decide +kernel) (vx_c (va_Nw.use rfl (hE.1.1.2.1.2.1 "java/util/NoSuchElementException" (List.mem_of_getElem? (i := 2) rfl))) (vx_c (va_Nw.use rfl (hE.1.1.2.1.2.2 _ (List.mem_of_getElem? (i := 0) rfl))) (vx_c (va_Nw.use rfl (hE.1.1.2.1.2.2 _ (List.mem_of_getElem? (i := 1) rfl))) (vx_c (va_Nw.use rfl (hE.1.1.2.1.2.2 _ (List.mem_of_getElem? (i := 2) rfl))) vx_n))))
theorem bX2_at3 {c : Cond} {l : List Cond} {args : Array Value} {adK adV : Nat → Nat} {A : Nat → Prop} {s : State} {H : Heap} (hts : ∀ w ∈ c :: (l ++ bs2), w.before args s = true) (hE : EVC adK adV A s H) : ∀ w ∈ vx_atS RX11 73 "java/lang/IllegalStateException" ["java/lang/RuntimeException", "java/lang/Exception"], w.before args s = true := vx_hat (fun w h => hts w (bX2_3 w h)) (B := [.castable "java/lang/IllegalStateException" "java/lang/IllegalStateException", .declares (Bundle.initS "java/lang/RuntimeException"), .declares (Bundle.initS "java/lang/Exception"), .declares (Bundle.initS "java/lang/Throwable")]) (by decide +kernel) (vx_c (va_Nw.use rfl (hE.1.1.2.1.2.1 "java/lang/IllegalStateException" (List.mem_of_getElem? (i := 3) rfl))) (vx_c (va_Nw.use rfl (hE.1.1.2.1.2.2 _ (List.mem_of_getElem? (i := 0) rfl))) (vx_c (va_Nw.use rfl (hE.1.1.2.1.2.2 _ (List.mem_of_getElem? (i := 1) rfl))) (vx_c (va_Nw.use rfl (hE.1.1.2.1.2.2 _ (List.mem_of_getElem? (i := 2) rfl))) vx_n))))
theorem bX2_at4 {c : Cond} {l : List Cond} {args : Array Value} {adK adV : Nat → Nat} {A : Nat → Prop} {s : State} {H : Heap} (hts : ∀ w ∈ c :: (l ++ bs2), w.before args s = true) (hE : EVC adK adV A s H) : ∀ w ∈ vx_atS RX11 349 "java/lang/UnsupportedOperationException" ["java/lang/RuntimeException", "java/lang/Exception"], w.before args s = true := vx_hat (fun w h => hts w (bX2_4 w h)) (B := [.castable "java/lang/UnsupportedOperationException" "java/lang/UnsupportedOperationException", .declares (Bundle.initS "java/lang/RuntimeException"), .declares (Bundle.initS "java/lang/Exception"), .declares (Bundle.initS "java/lang/Throwable")]) (by decide +kernel) (vx_c (va_Nw.use rfl (hE.2 "java/lang/UnsupportedOperationException" (List.mem_of_getElem? (i := 0) rfl))) (vx_c (va_Nw.use rfl (hE.1.1.2.1.2.2 _ (List.mem_of_getElem? (i := 0) rfl))) (vx_c (va_Nw.use rfl (hE.1.1.2.1.2.2 _ (List.mem_of_getElem? (i := 1) rfl))) (vx_c (va_Nw.use rfl (hE.1.1.2.1.2.2 _ (List.mem_of_getElem? (i := 2) rfl))) vx_n))))
theorem bX2_at5 {c : Cond} {l : List Cond} {args : Array Value} {adK adV : Nat → Nat} {A : Nat → Prop} {s : State} {H : Heap} (hts : ∀ w ∈ c :: (l ++ bs2), w.before args s = true) (hE : EVC adK adV A s H) : ∀ w ∈ vx_atS RX11 556 "java/lang/ClassCastException" ["java/lang/RuntimeException", "java/lang/Exception"], w.before args s = true := vx_hat (fun w h => hts w (bX2_5 w h)) (B := [.castable "java/lang/ClassCastException" "java/lang/ClassCastException", .declares (Bundle.initS "java/lang/RuntimeException"), .declares (Bundle.initS "java/lang/Exception"), .declares (Bundle.initS "java/lang/Throwable")]) (by decide +kernel) (vx_c (va_Nw.use rfl (hE.2 "java/lang/ClassCastException" (List.mem_of_getElem? (i := 1) rfl))) (vx_c (va_Nw.use rfl (hE.1.1.2.1.2.2 _ (List.mem_of_getElem? (i := 0) rfl))) (vx_c (va_Nw.use rfl (hE.1.1.2.1.2.2 _ (List.mem_of_getElem? (i := 1) rfl))) (vx_c (va_Nw.use rfl (hE.1.1.2.1.2.2 _ (List.mem_of_getElem? (i := 2) rfl))) vx_n))))
theorem bX_ok4_345 : ∀ w ∈ Cond.classLink RX11 345 "java/lang/UnsupportedOperationException" :: Cond.initialized "java/lang/UnsupportedOperationException" :: vx_atS RX11 349 "java/lang/UnsupportedOperationException" ["java/lang/RuntimeException", "java/lang/Exception"], vx_ot w = true := by decide +kernel
theorem bX_ok5_552 : ∀ w ∈ Cond.classLink RX11 552 "java/lang/ClassCastException" :: Cond.initialized "java/lang/ClassCastException" :: vx_atS RX11 556 "java/lang/ClassCastException" ["java/lang/RuntimeException", "java/lang/Exception"], vx_ot w = true := by decide +kernel
section TWN
variable {p : Program} {l : Launch} {e : Env} {R : Room} {s : State} {m : MethodId} {args : Array Value} {below : List Frame} {meth : Method} {c : Code} {H : Heap} {locs : List Loc} {cells slots : Nat} {Q : State → Prop}
variable {cc : ByteArray} {pc : Nat} {ls : Array Slot} {rest : List Value} {D : va_G} {cl : List vw_C} {A : Nat → Prop} {a : Nat} {tys : List (ClassId × FieldType)} {H0 : Heap} {kA : Nat → ClassId} {Sg : Nat → gS} {G : gT} {t : Nat} {E : gE}
theorem tw_getN (hexec : p.tables.exec = Jvm.exec) (hb : c.code = cc) {own ref C host : String} {T : u_T} {N ci index : Nat} {Ts : List Cond} (hts : ∀ w ∈ Ts, w.before args s = true) (hin : ∀ w ∈ u_ws C T N, w ∈ Ts) (hown : s.vm.findClass own = some m.cls) (hK : va_K D cl tys s) (hT : gH D kA Sg G H) (ha : G a = some t) (hs : Sg t = .inl (ci, N, E)) (hc : cl[ci]? = some (C, T, N)) (k : Nat) (hk : k < N) (hlink : (Cond.fieldLinkNest own index ref (T k).2.1 (T k).2.2.1 host).before args s = true) (hsame : ∀ x, s.fieldFound? (T k).1 (T k).2.1 (T k).2.2.1 = some x → s.fieldFound? ref (T k).2.1 (T k).2.2.1 = some x) (hdg : decode cc pc = .ok (.getfield index, 3))
    (kk : ∀ v, el H a (D.2 ci k) = some v → E G k v → W p l e R s m args below meth c H locs cells slots Q (F0 m (pc + 3) ls (v :: rest))) : W p l e R s m args below meth c H locs cells slots Q (F0 m pc ls (.ref a :: rest)) := by
  have h := hT a t ha
  rw [hs] at h
  obtain ⟨V, ⟨cell, q1, q2, q3, q4⟩, hE⟩ := h
  have hv : el H a (D.2 ci k) = some (V k) := by unfold el; rw [q1]; exact q4 k hk
  obtain ⟨hS, hfc, kC, hkC, hkind⟩ := hK.1 ci _ hc
  obtain ⟨cf, kf, fi, f, hi, hsl⟩ := hS k hk
  refine va_Wgetf hexec hb hown hlink (hsame _ hi) (u_facts hfc hkC (u_lays hts hin hk) hi).1 q1 (by rw [q3]; exact fun h => by cases h) (v := V k) ?_ rfl rfl hdg (kk (V k) hv (hE k hk))
  rw [hsl, q4 k hk]
theorem tw_getNM (hexec : p.tables.exec = Jvm.exec) (hb : c.code = cc) {own ref C host : String} {T : u_T} {N ci index : Nat} {Ts : List Cond} (hts : ∀ w ∈ Ts, w.before args s = true) (hin : ∀ w ∈ u_ws C T N, w ∈ Ts) (hown : s.vm.findClass own = some m.cls) (hK : va_K D cl tys s) (hT : gH D kA Sg G H) (ha : G a = some t) (hs : Sg t = .inl (ci, N, E)) (hc : cl[ci]? = some (C, T, N)) (k : Nat) (hk : k < N) (hlink : (Cond.fieldLinkNest own index ref (T k).2.1 (T k).2.2.1 host).before args s = true) (hsame : ∀ x, s.fieldFound? (T k).1 (T k).2.1 (T k).2.2.1 = some x → s.fieldFound? ref (T k).2.1 (T k).2.2.1 = some x) {v : Value} (hm : el H a (D.2 ci k) = some v) (hdg : decode cc pc = .ok (.getfield index, 3))
    (kk : W p l e R s m args below meth c H locs cells slots Q (F0 m (pc + 3) ls (v :: rest))) : W p l e R s m args below meth c H locs cells slots Q (F0 m pc ls (.ref a :: rest)) := by
  refine tw_getN hexec hb hts hin hown hK hT ha hs hc k hk hlink hsame hdg (fun v' h _ => ?_)
  rw [hm] at h
  cases h
  exact kk
theorem tw_putN (hexec : p.tables.exec = Jvm.exec) (hb : c.code = cc) {own ref C host : String} {T : u_T} {N ci index : Nat} {Ts : List Cond} (hts : ∀ w ∈ Ts, w.before args s = true) (hin : ∀ w ∈ u_ws C T N, w ∈ Ts) (ty0 : Nat → FieldType) (hty : ∀ k, k < N → parseFieldDescriptor (T k).2.2.1 = some (ty0 k)) (hnm : ∀ a, a < N → ∀ b, b < N → a ≠ b → (T a).2.1 ≠ (T b).2.1) (hown : s.vm.findClass own = some m.cls) (hK : va_K D cl tys s) (hT : gH D kA Sg G H) (hG : ∀ q t, G q = some t → A q) (hS0 : va_S A H0 H locs) (ha : G a = some t) (hs : Sg t = .inl (ci, N, E)) (hc : cl[ci]? = some (C, T, N)) (k : Nat) (hk : k < N) (hlink : (Cond.fieldLinkNest own index ref (T k).2.1 (T k).2.2.1 host).before args s = true) (hsame : ∀ x, s.fieldFound? (T k).1 (T k).2.1 (T k).2.2.1 = some x → s.fieldFound? ref (T k).2.1 (T k).2.2.1 = some x) (hfin : (T k).2.2.2 = false) {ty : FieldType} {v : Value} (hd : parseFieldDescriptor (T k).2.2.1 = some ty) (hn : narrow ty v = v) (hfit : fits ty v = true) (hE : E G k v)
    (hdg : decode cc pc = .ok (.putfield index, 3)) (kk : ∀ (H1 : Heap) (locs1 : List Loc), gH D kA Sg G H1 → (∀ q, q ≠ a → H1[q]? = H[q]?) → el H1 a (D.2 ci k) = some v → (∀ j, j < N → j ≠ k → el H1 a (D.2 ci j) = el H a (D.2 ci j)) → va_S A H0 H1 locs1 → W p l e R s m args below meth c H1 locs1 cells slots Q (F0 m (pc + 3) ls rest)) : W p l e R s m args below meth c H locs cells slots Q (F0 m pc ls (v :: .ref a :: rest)) := by
  have hap := va_apart (own := own) hts hin ty0 hty hnm hK hc
  have h := hT a t ha
  rw [hs] at h
  obtain ⟨V, ⟨cell, q1, q2, q3, q4⟩, hE0⟩ := h
  obtain ⟨hS, hfc, kC, hkC, hkind⟩ := hK.1 ci _ hc
  obtain ⟨cf, kf, fi, f, hi, hsl⟩ := hS k hk
  have hlay := hts _ (hin _ (u_in_lay hk))
  unfold u_lay at hlay
  rw [if_neg (by rw [hfin]; decide)] at hlay
  have hst := (u_facts hfc hkC (u_lays hts hin hk) hi).1
  have h6 := u_store hfc hkC hkind hlay hi hd hn hfit
  refine va_WputK hexec hb (f := f) hown hlink (hsame _ hi) hst (by rw [q2]; exact h6) q1 q3 (by rw [hsl]; exact k2_hasslot (q4 k hk)) rfl rfl hdg fun H' e1 e2 e3 => ?_
  rw [hsl] at e1 ⊢
  have hV : ∀ j, j < N → (cell.setSlot (D.2 ci k) v).slots[D.2 ci j]? = some (updV V k v j) := t_set q4 hap hk v
  refine kk H' _ (hT.put ha ?_ e3) e3 ?_ ?_ (hS0.put e2 e3 (hG a t ha))
  · rw [hs]
    refine ⟨updV V k v, ⟨_, e1, q2, q3, hV⟩, fun j hj => ?_⟩
    show E G j (if j = k then v else V j)
    by_cases hjk : j = k
    · rw [if_pos hjk, hjk]; exact hE
    · rw [if_neg hjk]; exact hE0 j hj
  · unfold el
    rw [e1]
    have := hV k hk
    rw [show updV V k v k = v from if_pos rfl] at this
    exact this
  · intro j hj hjk
    unfold el
    rw [e1, q1]
    have := hV j hj
    rw [show updV V k v j = V j from if_neg hjk] at this
    exact this.trans (q4 j hj).symm
end TWN
theorem xor_nn {x y : Int32} {a b : Int} (hx : x.toInt = a) (hy : y.toInt = b) (h0 : 0 ≤ a) (h1 : 0 ≤ b) : 0 ≤ (x ^^^ y).toInt := by
  have e1 : x.toBitVec.msb = false := by
    rw [BitVec.msb_eq_toInt]
    have : x.toBitVec.toInt = a := hx
    simp [this]; omega
  have e2 : y.toBitVec.msb = false := by
    rw [BitVec.msb_eq_toInt]
    have : y.toBitVec.toInt = b := hy
    simp [this]; omega
  have e3 : (x ^^^ y).toBitVec.msb = false := by
    show (x.toBitVec ^^^ y.toBitVec).msb = false
    rw [BitVec.msb_xor, e1, e2]; rfl
  rw [BitVec.msb_eq_toInt] at e3
  have : (x ^^^ y).toBitVec.toInt = (x ^^^ y).toInt := rfl
  rw [this] at e3
  simpa using e3
theorem and_nn {x y : Int32} {b : Int} (hy : y.toInt = b) (h1 : 0 ≤ b) : 0 ≤ (x &&& y).toInt ∧ (x &&& y).toInt ≤ b := by
  have e2 : y.toBitVec.msb = false := by
    rw [BitVec.msb_eq_toInt]
    have : y.toBitVec.toInt = b := hy
    simp [this]; omega
  have e3 : (x &&& y).toBitVec.msb = false := by
    show (x.toBitVec &&& y.toBitVec).msb = false
    rw [BitVec.msb_and, e2, Bool.and_false]
  have n1 : (x &&& y).toInt = ((x.toBitVec &&& y.toBitVec).toNat : Int) := BitVec.toInt_eq_toNat_of_msb e3
  have n2 : y.toInt = (y.toBitVec.toNat : Int) := BitVec.toInt_eq_toNat_of_msb e2
  have n3 : (x.toBitVec &&& y.toBitVec).toNat ≤ y.toBitVec.toNat := by rw [BitVec.toNat_and]; exact Nat.and_le_right
  omega
section TWC
variable {p : Program} {l : Launch} {e : Env} {R : Room} {s : State} {m : MethodId} {args : Array Value} {below : List Frame} {meth : Method} {c : Code} {H : Heap} {locs : List Loc} {cells slots : Nat} {Q : State → Prop}
variable {cc : ByteArray} {pc : Nat} {ls : Array Slot} {rest : List Value} {D : va_G} {cl : List vw_C} {A : Nat → Prop} {a : Nat} {tys : List (ClassId × FieldType)} {H0 : Heap} {kA : Nat → ClassId} {Sg : Nat → gS} {G : gT}
theorem tw_copy (hexec : p.tables.exec = Jvm.exec) (hb : c.code = cc) (hml : c.maxLocals = ls.size) {own : String} {index : Nat} (hown : s.vm.findClass own = some m.cls) (hlink : (Cond.methodLink own index arraycopyName).before args s = true) (hnat : (Cond.native arraycopyName).before args s = true) (hstat : (Cond.static arraycopyName).before args s = true) (hini : (Cond.initialized "java/lang/System").before args s = true)
    (hK : va_K D cl tys s) (hTy : gH D kA Sg G H) (hG : ∀ q t, G q = some t → A q) (hS : va_S A H0 H locs) {a0 t0 t1 j n0 n1 : Nat} {E0 E1 : gE} {ty : FieldType} (ha0 : G a0 = some t0) (ha1 : G a = some t1) (hs0 : Sg t0 = .inr (j, n0, E0)) (hs1 : Sg t1 = .inr (j, n1, E1)) (ht : tys[j]? = some (kA j, ty)) (hprim : refKind ty = false)
    {sp dp n : Int32} (h1 : ¬ sp < 0) (h2 : ¬ dp < 0) (h3 : ¬ n < 0) (h4 : sp.toNatClampNeg + n.toNatClampNeg ≤ n0) (h5 : dp.toNatClampNeg + n.toNatClampNeg ≤ n1) (hfit : ∀ k v, E0 G k v → ∃ x : Int32, v = .int x ∧ fits ty (.int x) = true) (hE : ∀ k k1 v, E0 G k v → E1 G k1 v)
    (hframes : 1 ≤ R.frames) (hlocals : (rest.map fun v => v.category).sum + (nativeFrameWords "java/lang/System" "arraycopy" 5 + 11) ≤ R.locals) (hdg : decode cc pc = .ok (.invokestatic index, 3))
    (kk : ∀ (H1 : Heap) (locs1 : List Loc), gH D kA Sg G H1 → (∀ q, q ≠ a → H1[q]? = H[q]?) → va_S A H0 H1 locs1 → W p l e R s m args below meth c H1 locs1 cells slots Q (F0 m (pc + 3) ls rest)) : W p l e R s m args below meth c H locs cells slots Q (F0 m pc ls (.int n :: .int dp :: .ref a :: .int sp :: .ref a0 :: rest)) := by
  have nn : ∀ z : Int32, ¬ z < 0 → z.toInt = (z.toNatClampNeg : Int) := by
    intro z hz
    have hz0 : (0 : Int) ≤ z.toInt := by
      have := Int32.not_lt.mp hz
      simpa using Int32.le_iff_toInt_le.mp this
    show z.toInt = ((z.toInt.toNat : Nat) : Int)
    omega
  have q0 := hTy a0 t0 ha0
  rw [hs0] at q0
  obtain ⟨f, hc0, hf⟩ := q0
  have hc0 : H[a0]? = some (arrV (kA j) n0 f) := hc0
  have hf : ∀ k, k < n0 → E0 G k (f k) := hf
  have q1 := hTy a t1 ha1
  rw [hs1] at q1
  obtain ⟨g, hc1, hg⟩ := q1
  have hc1 : H[a]? = some (arrV (kA j) n1 g) := hc1
  have hg : ∀ k, k < n1 → E1 G k (g k) := hg
  intro T hT X
  obtain ⟨-, k0, hk0, cm0, hkk0⟩ := (hK.2 j _ ht).1 n0 f
  obtain ⟨-, k1, hk1, cm1, hkk1⟩ := (hK.2 j _ ht).1 n1 g
  obtain ⟨vm', X', step⟩ := X.arraycopy hexec hown hlink hnat hstat hini (src := a0) (dst := a) (cs := arrV (kA j) n0 f) (cd := arrV (kA j) n1 g) (srcPos := sp) (destPos := dp) (n := n) (by rw [hT]; exact hc0) (by rw [hT]; exact hc1)
    (fun _ h => by cases h) (fun _ h => by cases h) (fun h => by cases h) (fun h => by cases h) hk0 hk1 hkk0 hkk1 (by simp [hprim]) h1 h2 h3
    (by rw [nn sp h1, nn n h3]; show ¬ _ > ((arrV (kA j) n0 f).slots.size : Int); rw [arrV_size]; omega)
    (by rw [nn dp h2, nn n h3]; show ¬ _ > ((arrV (kA j) n1 g).slots.size : Int); rw [arrV_size]; omega)
    (fun vm₁ _ i hi => by
      have e : (arrV (kA j) n0 f).slots.getD (sp.toNatClampNeg + i) .null = f (sp.toNatClampNeg + i) := by
        rw [Array.getD_eq_getD_getElem?, arrV_read _ _ (by omega)]
        rfl
      obtain ⟨x9, ex9, hx9⟩ := hfit _ _ (hf (sp.toNatClampNeg + i) (by omega))
      rw [ex9] at e
      refine ⟨?_, ?_⟩
      · rw [e]
        exact hx9
      · rw [e]
        exact trivial)
    (g := F0 m pc ls (.int n :: .int dp :: .ref a :: .int sp :: .ref a0 :: rest)) rfl (by rw [hml]) (rest := rest) rfl (by rw [hb]; exact hdg) hframes (by show 2 * 0 + _ + _ ≤ _; omega)
  have e1 : copied (arrV (kA j) n0 f) (arrV (kA j) n1 g) sp dp n = arrV (kA j) n1 (va_cpy f g sp.toNatClampNeg dp.toNatClampNeg n.toNatClampNeg) := va_copied (fun z : Value => z) (kA j) (kA j) f g h4
  rw [e1] at X' step
  have hl : a < H.size := (Array.getElem?_eq_some_iff.mp hc1).1
  have hheap : ((T.setVm vm').setCell a (arrV (kA j) n1 (va_cpy f g sp.toNatClampNeg dp.toNatClampNeg n.toNatClampNeg))).heap = H.setIfInBounds a (arrV (kA j) n1 (va_cpy f g sp.toNatClampNeg dp.toNatClampNeg n.toNatClampNeg)) := by rw [← hT]; rfl
  have oq : ∀ q : Nat, q ≠ a → (H.setIfInBounds a (arrV (kA j) n1 (va_cpy f g sp.toNatClampNeg dp.toNatClampNeg n.toNatClampNeg)))[q]? = H[q]? := fun q hq => by simp [Array.getElem?_setIfInBounds, Ne.symm hq]
  have haA : A a := hG a t1 ha1
  obtain ⟨t, a1, b1⟩ := kk _ _ (hTy.put ha1 (by
      rw [hs1]
      refine ⟨va_cpy f g sp.toNatClampNeg dp.toNatClampNeg n.toNatClampNeg, (show (H.setIfInBounds a _)[a]? = some _ by simp [Array.getElem?_setIfInBounds, hl]), fun k hk => ?_⟩
      have hk : k < n1 := hk
      unfold va_cpy
      by_cases q : dp.toNatClampNeg ≤ k ∧ k < dp.toNatClampNeg + n.toNatClampNeg
      · rw [if_pos q]; exact hE _ _ _ (hf _ (by omega))
      · rw [if_neg q]; exact hg k hk) oq) oq ⟨by simp; exact hS.1, fun q g1 g2 => by
      rw [oq q (fun e => g2 (by rw [e]; exact haA))]
      exact hS.2.1 q g1 g2, fun q hq => by
      rcases List.mem_append.mp hq with h | h
      · exact hS.2.2 q h
      · obtain ⟨z, -, hz⟩ := List.mem_map.mp h
        rw [← hz]
        exact haA⟩ _ hheap X'
  exact ⟨t, step t a1, b1⟩
end TWC
theorem gH.ext {D : va_G} {kA : Nat → ClassId} {Sg : Nat → gS} {G : gT} {H H1 : Heap} (h : gH D kA Sg G H) (hq : ∀ q, q < H.size → H1[q]? = H[q]?) : gH D kA Sg G H1 := by
  intro a t ha
  have hc := h a t ha
  refine hc.kept (hq a ?_)
  revert hc
  cases Sg t with
  | inl o => rintro ⟨V, ⟨cell, q1, -⟩, -⟩; exact (Array.getElem?_eq_some_iff.mp q1).1
  | inr o => rintro ⟨V, q1, -⟩; exact (Array.getElem?_eq_some_iff.mp q1).1
theorem gF.ext {D : va_G} {kA : Nat → ClassId} {Sg Sk : Nat → gS} {G : gT} {M : List (Nat × Nat)} {H0 H H1 : Heap} (hT : gH D kA Sg G H) (h : gF D Sk G M H0 H) (hq : ∀ q, q < H.size → H1[q]? = H[q]?) : gF D Sk G M H0 H1 := by
  intro a t ha
  have hl : a < H.size := by
    have hc := hT a t ha
    revert hc
    cases Sg t with
    | inl o => rintro ⟨V, ⟨cell, q1, -⟩, -⟩; exact (Array.getElem?_eq_some_iff.mp q1).1
    | inr o => rintro ⟨V, q1, -⟩; exact (Array.getElem?_eq_some_iff.mp q1).1
  have q := h a t ha
  revert q
  cases Sk t with
  | inl o => exact fun q k hk hn => (el_kept (hq a hl)).trans (q k hk hn)
  | inr o => exact fun q hn => (hq a hl).trans (q hn)
/-- an array whose first n places are no null -/
def gnb (n : Int) (t : Nat) : gE := fun G i v => ((i : Int) < n → gR t G v) ∧ gN t G v
theorem el_sameR {H : Heap} {a : Nat} {i j : Int32} {x y : Nat} (h1 : el H a i.toNatClampNeg = some (.ref x)) (h2 : el H a j.toNatClampNeg = some (.ref y)) (h : i.toInt = j.toInt) : x = y := by
  have e : i = j := Int32.toInt_inj.mp h
  subst e
  rw [h1] at h2
  cases h2
  rfl
section VXR
variable {p : Program} {l : Launch} {e : Env} {R : Room} {s : State} {m : MethodId} {args : Array Value} {below : List Frame} {meth : Method} {c : Code} {H : Heap} {locs : List Loc} {cells slots : Nat} {Q : State → Prop}
variable {mc ms : Nat} {free : Addr → Prop} {A0 A1 : Nat → Prop} {H0 : Heap} {a : Array Value} {pc : Nat} {ls : Array Slot} {st0 rest : List Value}
theorem vx_callr {S SX : Type} {post : S → Prop} {px : SX → Prop} {B : S → Nat → State → Prop} {BX : String → SX → State → Prop} {AX : Nat → Prop} (hr : vx_Run p l e R s m args below meth c H locs cells slots mc ms (F0 m pc ls st0) rest (va_Qr post B A1 a) (vx_X px BX AX) free) (hS : va_S A0 H0 H locs) (hA : ∀ q, q < H.size → A1 q → A0 q) (hf : ∀ q, free q → A0 q) (hAX : ∀ q, q < H.size → AX q → A0 q)
    (kx : ∀ (E : String) (ce : Cell) (q9 : Addr) (u : SX) (t : State) (H1 : Heap) (locs1 : List Loc), t.heap = H1 → s.vm.Alike t.vm → px u → BX E u t → H.size ≤ H1.size → (∀ q : Nat, q < H.size → ¬ AX q → H1[q]? = H[q]?) → va_S A0 H0 H1 locs1 → H1[q9]? = some ce → ce.vm = .none → s.vm.findClass E = some ce.cls → vx_W p l e R s m args below meth c H1 locs1 (cells + mc) (slots + ms) Q (F0 m pc ls rest) q9)
    (kk : ∀ (u : S) (ra : Nat) (t : State) (H1 : Heap) (locs1 : List Loc), t.heap = H1 → s.vm.Alike t.vm → post u → B u ra t → H.size ≤ H1.size → (∀ q : Nat, q < H.size → ¬ A1 q → H1[q]? = H[q]?) → va_S A0 H0 H1 locs1 → W p l e R s m args below meth c H1 locs1 (cells + mc) (slots + ms) Q (F0 m (pc + 3) ls (.ref ra :: rest))) : W p l e R s m args below meth c H locs cells slots Q (F0 m pc ls st0) := by
  intro T hT X
  rcases hr T hT X with ⟨v, st₀, t, T', L, h0, X', hL, e1, e2, ⟨⟨u, ra, hv, hp, hb⟩, hF⟩, st⟩ | ⟨q, st₀, t, T', L, E, ce, h0, X', hL, e1, e2, ⟨u, hp, hb, hF⟩, hce, hcv, hcl, st⟩
  · cases hv
    obtain ⟨k1, k2, k3⟩ := vx_keep h0 e1 hS hA hf hL hF
    obtain ⟨t2, a1, b1⟩ := kk u ra t T'.heap (locs ++ L) e1.symm (by rw [← e2]; exact X'.warmed.alike) hp hb k1 k2 k3 T' rfl X'
    exact ⟨t2, st t2 a1, b1⟩
  · obtain ⟨k1, k2, k3⟩ := vx_keep h0 e1 hS hAX hf hL hF
    obtain ⟨t2, a1, b1⟩ := kx E ce q u t T'.heap (locs ++ L) e1.symm (by rw [← e2]; exact X'.warmed.alike) hp hb k1 k2 k3 (by rw [e1]; exact hce) hcv hcl T' rfl X'
    exact ⟨t2, st.trans a1, b1⟩
end VXR
