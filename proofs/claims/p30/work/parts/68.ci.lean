theorem EVC.narrow {adK adV : Nat → Nat} {A B : Nat → Prop} {U : State} (h : EVC adK adV A U U.heap) (hA : ∀ q, B q → A q) : EVC adK adV B U U.heap := EVC.call h va_S.rf hA rfl (State.WarmedH.refl U)
/-- the object between two calls; Pr: what is not its own; gn: the number that both sides keep -/
def CJ (dC : Nat → ClassId) (dI : Nat → Nat → Nat) (kA : Nat → ClassId) (Pr : Nat → Prop) (gn : Int32) (x ou : Nat) (H : Heap) : Prop := ∃ (G : gT) (nC nS : Int) (bo wa wc : Nat), gH (dC, dI) kA (SHc nC nS) G H ∧ G x = some 14 ∧ G ou = some 98 ∧ (0 ≤ nC ∧ nC ≤ 40) ∧ (0 ≤ nS ∧ nS ≤ 60) ∧ (∀ b, G b = some 3 → b = bo) ∧ (∀ b, G b = some 51 → b = wa) ∧ (∀ b, G b = some 14 → b = x) ∧ (∀ b, G b = some 17 → b = wc) ∧ (∀ a t, G a = some t → ¬ Pr a) ∧ nS = gn.toInt ∧ (0 ≤ gn.toInt ∧ gn.toInt ≤ 60)
theorem CJ.kept {dC : Nat → ClassId} {dI : Nat → Nat → Nat} {kA : Nat → ClassId} {Pr : Nat → Prop} {gn : Int32} {x ou : Nat} {H H1 : Heap} (h : CJ dC dI kA Pr gn x ou H) (hk : ∀ a, a < H.size → ¬ Pr a → H1[a]? = H[a]?) : CJ dC dI kA Pr gn x ou H1 := by
  obtain ⟨G, nC, nS, bo, wa, wc, hT, r1, r2, r3, r4, r5, r6, r7, r8, hp, hm2, hgr⟩ := h
  have hk2 : ∀ a t, G a = some t → H1[a]? = H[a]? := fun a t ha => hk a (hT.lt ha) (hp a t ha)
  exact ⟨G, nC, nS, bo, wa, wc, fun a t ha => (hT a t ha).kept (hk2 a t ha), r1, r2, r3, r4, r5, r6, r7, r8, hp, hm2, hgr⟩
theorem CJ.ou {dC : Nat → ClassId} {dI : Nat → Nat → Nat} {kA : Nat → ClassId} {Pr : Nat → Prop} {gn : Int32} {x ou : Nat} {H : Heap} (h : CJ dC dI kA Pr gn x ou H) : ou < H.size ∧ ¬ Pr ou := by
  obtain ⟨G, nC, nS, bo, wa, wc, hT, r1, r2, r3, r4, r5, r6, r7, r8, hp, -⟩ := h
  exact ⟨hT.lt r2, hp _ _ r2⟩
theorem gA_pr {G : gT} {Pr : Nat → Prop} {z : Nat} (hPr : ∀ a, Pr a → a < z) (hp : ∀ a t, G a = some t → ¬ Pr a) : ∀ q, gA G z q → ¬ Pr q := by
  rintro q (⟨t, h⟩ | h) h9
  · exact hp q t h h9
  · have := hPr q h9; omega
theorem gZ.pr {L : List Nat} {z : Nat} {G G1 : gT} {Pr : Nat → Prop} (h : gZ L z G G1) (hPr : ∀ a, Pr a → a < z) (hp : ∀ a t, G a = some t → ¬ Pr a) : ∀ a t, G1 a = some t → ¬ Pr a := by
  intro a t ha h9
  rcases h.2.1 a t ha with g | ⟨g, -⟩
  · exact hp a t g h9
  · have := hPr a h9; omega
theorem va_F.sub {A B : Nat → Prop} {st t : State} (h : va_F A st t) (hA : ∀ q, A q → B q) : va_F B st t := ⟨h.1, fun q h1 h2 => h.2 q h1 (fun h3 => h2 (hA q h3))⟩
set_option maxHeartbeats 2000000 in
theorem k_choose (l : Launch) (hlt : l.stackTraces = false) (dC : Nat → ClassId) (dI : Nat → Nat → Nat) (kA : Nat → ClassId) (adK adV : Nat → Nat) (Pr : Nat → Prop) (H0 : Heap) (x ou : Nat) (p1 : Int32)  (hPr : ∀ a, Pr a → a < H0.size) {gn : Int32} (hI : CJ dC dI kA Pr gn x ou H0) : Met l yL_choose w_l_choose ({ frames := 8, cells := 1, slots := 6, locals := 182 }) (va_Pc [.ref x, .int p1, .ref ou] (fun U => U.heap = H0 ∧ va_K (dC, dI) vwCl (tyl kA) U ∧ EVC adK adV (fun q => ¬ Pr q) U U.heap ∧ NC U ∧ AO U)) (va_Qi (fun (r : Int32) (_ : Unit) => True) (fun (_ : Unit) (t : State) => CJ dC dI kA Pr gn x ou t.heap) (fun q => ¬ Pr q)) 1 6 (fun q => ¬ Pr q) := by
  obtain ⟨G, nC, nS, bo, wa, wc, hT, hx, hou, hgC, hgS, hb3, hb51, hb14, hb17, hp9, hm2, hgr⟩ := hI
  have hA9 := gA_pr hPr hp9
  refine Met.weak (l_choose (l := l) (hlt := hlt) (dC := dC) (dI := dI) (kA := kA) (adK := adK) (adV := adV) (G := G) (H0 := H0) (nC := nC) (nS := nS) (o0 := x) (p1 := p1) (ou := ou) (hT := hT) (hr_o0 := hx) (hr_ou := hou) (hgC := hgC) (hgS := hgS)) (fun a U h => ⟨h.1, h.2.1, h.2.2.1, EVC.narrow h.2.2.2.1 hA9, h.2.2.2.2.1⟩) (fun a st oc t _ h => ?_) hA9
  obtain ⟨⟨r, u, e1, hp, hB⟩, hF⟩ := h
  exact ⟨⟨r, (), e1, trivial, ⟨G, nC, nS, bo, wa, wc, hB.1, hx, hou, hgC, hgS, hb3, hb51, hb14, hb17, hp9, hm2, hgr⟩⟩, hF.sub hA9⟩
set_option maxHeartbeats 2000000 in
theorem k_close (l : Launch) (hlt : l.stackTraces = false) (dC : Nat → ClassId) (dI : Nat → Nat → Nat) (kA : Nat → ClassId) (adK adV : Nat → Nat) (Pr : Nat → Prop) (H0 : Heap) (x ou : Nat)   (hPr : ∀ a, Pr a → a < H0.size) {gn : Int32} (hI : CJ dC dI kA Pr gn x ou H0) : Met l yL_close w_l_close ({ frames := 8, cells := 1, slots := 6, locals := 140 }) (va_Pc [.ref x, .ref ou] (fun U => U.heap = H0 ∧ va_K (dC, dI) vwCl (tyl kA) U ∧ EVC adK adV (fun q => ¬ Pr q) U U.heap ∧ NC U ∧ AO U)) (va_Qi (fun (r : Int32) (_ : Unit) => True) (fun (_ : Unit) (t : State) => CJ dC dI kA Pr gn x ou t.heap) (fun q => ¬ Pr q)) 1 6 (fun q => ¬ Pr q) := by
  obtain ⟨G, nC, nS, bo, wa, wc, hT, hx, hou, hgC, hgS, hb3, hb51, hb14, hb17, hp9, hm2, hgr⟩ := hI
  have hA9 := gA_pr hPr hp9
  refine Met.weak (l_close (l := l) (hlt := hlt) (dC := dC) (dI := dI) (kA := kA) (adK := adK) (adV := adV) (G := G) (H0 := H0) (nC := nC) (nS := nS) (o0 := x) (ou := ou) (hT := hT) (hr_o0 := hx) (hr_ou := hou) (hgC := hgC) (hgS := hgS)) (fun a U h => ⟨h.1, h.2.1, h.2.2.1, EVC.narrow h.2.2.2.1 hA9, h.2.2.2.2.1⟩) (fun a st oc t _ h => ?_) hA9
  obtain ⟨⟨r, u, e1, hp, hB⟩, hF⟩ := h
  exact ⟨⟨r, (), e1, trivial, ⟨G, nC, nS, bo, wa, wc, hB.1, hx, hou, hgC, hgS, hb3, hb51, hb14, hb17, hp9, hm2, hgr⟩⟩, hF.sub hA9⟩
set_option maxHeartbeats 2000000 in
theorem k_coal (l : Launch) (hlt : l.stackTraces = false) (dC : Nat → ClassId) (dI : Nat → Nat → Nat) (kA : Nat → ClassId) (adK adV : Nat → Nat) (Pr : Nat → Prop) (H0 : Heap) (x ou : Nat) (p1 : Int32) (p2 : Int32)  (hPr : ∀ a, Pr a → a < H0.size) {gn : Int32} (hI : CJ dC dI kA Pr gn x ou H0) : Met l yL_coal w_l_coal ({ frames := 8, cells := 2, slots := 12, locals := 144 }) (va_Pc [.ref x, .int p1, .int p2, .ref ou] (fun U => U.heap = H0 ∧ va_K (dC, dI) vwCl (tyl kA) U ∧ EVC adK adV (fun q => ¬ Pr q) U U.heap ∧ NC U ∧ AO U)) (va_Qi (fun (r : Int32) (_ : Unit) => True) (fun (_ : Unit) (t : State) => CJ dC dI kA Pr gn x ou t.heap) (fun q => ¬ Pr q)) 2 12 (fun q => ¬ Pr q) := by
  obtain ⟨G, nC, nS, bo, wa, wc, hT, hx, hou, hgC, hgS, hb3, hb51, hb14, hb17, hp9, hm2, hgr⟩ := hI
  have hA9 := gA_pr hPr hp9
  refine Met.weak (l_coal (l := l) (hlt := hlt) (dC := dC) (dI := dI) (kA := kA) (adK := adK) (adV := adV) (G := G) (H0 := H0) (nC := nC) (nS := nS) (o0 := x) (p1 := p1) (p2 := p2) (ou := ou) (hT := hT) (hr_o0 := hx) (hr_ou := hou) (hgC := hgC) (hgS := hgS)) (fun a U h => ⟨h.1, h.2.1, h.2.2.1, EVC.narrow h.2.2.2.1 hA9, h.2.2.2.2.1⟩) (fun a st oc t _ h => ?_) hA9
  obtain ⟨⟨r, u, e1, hp, hB⟩, hF⟩ := h
  exact ⟨⟨r, (), e1, trivial, ⟨G, nC, nS, bo, wa, wc, hB.1, hx, hou, hgC, hgS, hb3, hb51, hb14, hb17, hp9, hm2, hgr⟩⟩, hF.sub hA9⟩
set_option maxHeartbeats 2000000 in
theorem k_coin (l : Launch) (hlt : l.stackTraces = false) (dC : Nat → ClassId) (dI : Nat → Nat → Nat) (kA : Nat → ClassId) (adK adV : Nat → Nat) (Pr : Nat → Prop) (H0 : Heap) (x ou : Nat) (p1 : Int32)  (hPr : ∀ a, Pr a → a < H0.size) {gn : Int32} (hI : CJ dC dI kA Pr gn x ou H0) : Met l yL_coin w_l_coin ({ frames := 8, cells := 1, slots := 6, locals := 141 }) (va_Pc [.ref x, .int p1, .ref ou] (fun U => U.heap = H0 ∧ va_K (dC, dI) vwCl (tyl kA) U ∧ EVC adK adV (fun q => ¬ Pr q) U U.heap ∧ NC U ∧ AO U)) (va_Qi (fun (r : Int32) (_ : Unit) => True) (fun (_ : Unit) (t : State) => CJ dC dI kA Pr gn x ou t.heap) (fun q => ¬ Pr q)) 1 6 (fun q => ¬ Pr q) := by
  obtain ⟨G, nC, nS, bo, wa, wc, hT, hx, hou, hgC, hgS, hb3, hb51, hb14, hb17, hp9, hm2, hgr⟩ := hI
  have hA9 := gA_pr hPr hp9
  refine Met.weak (l_coin (l := l) (hlt := hlt) (dC := dC) (dI := dI) (kA := kA) (adK := adK) (adV := adV) (G := G) (H0 := H0) (nC := nC) (nS := nS) (o0 := x) (p1 := p1) (ou := ou) (hT := hT) (hr_o0 := hx) (hr_ou := hou) (hgC := hgC) (hgS := hgS)) (fun a U h => ⟨h.1, h.2.1, h.2.2.1, EVC.narrow h.2.2.2.1 hA9, h.2.2.2.2.1⟩) (fun a st oc t _ h => ?_) hA9
  obtain ⟨⟨r, u, e1, hp, hB⟩, hF⟩ := h
  exact ⟨⟨r, (), e1, trivial, ⟨G, nC, nS, bo, wa, wc, hB.1, hx, hou, hgC, hgS, hb3, hb51, hb14, hb17, hp9, hm2, hgr⟩⟩, hF.sub hA9⟩
set_option maxHeartbeats 2000000 in
theorem k_come (l : Launch) (hlt : l.stackTraces = false) (dC : Nat → ClassId) (dI : Nat → Nat → Nat) (kA : Nat → ClassId) (adK adV : Nat → Nat) (Pr : Nat → Prop) (H0 : Heap) (x ou : Nat) (p1 : Int32)  (hPr : ∀ a, Pr a → a < H0.size) {gn : Int32} (hI : CJ dC dI kA Pr gn x ou H0) : Met l yL_come w_l_come ({ frames := 8, cells := 1, slots := 6, locals := 144 }) (va_Pc [.ref x, .int p1, .ref ou] (fun U => U.heap = H0 ∧ va_K (dC, dI) vwCl (tyl kA) U ∧ EVC adK adV (fun q => ¬ Pr q) U U.heap ∧ NC U ∧ AO U)) (va_Qi (fun (r : Int32) (_ : Unit) => True) (fun (_ : Unit) (t : State) => CJ dC dI kA Pr gn x ou t.heap) (fun q => ¬ Pr q)) 1 6 (fun q => ¬ Pr q) := by
  obtain ⟨G, nC, nS, bo, wa, wc, hT, hx, hou, hgC, hgS, hb3, hb51, hb14, hb17, hp9, hm2, hgr⟩ := hI
  have hA9 := gA_pr hPr hp9
  refine Met.weak (l_come (l := l) (hlt := hlt) (dC := dC) (dI := dI) (kA := kA) (adK := adK) (adV := adV) (G := G) (H0 := H0) (nC := nC) (nS := nS) (o0 := x) (p1 := p1) (ou := ou) (hT := hT) (hr_o0 := hx) (hr_ou := hou) (hgC := hgC) (hgS := hgS)) (fun a U h => ⟨h.1, h.2.1, h.2.2.1, EVC.narrow h.2.2.2.1 hA9, h.2.2.2.2.1⟩) (fun a st oc t _ h => ?_) hA9
  obtain ⟨⟨r, u, e1, hp, hB⟩, hF⟩ := h
  exact ⟨⟨r, (), e1, trivial, ⟨G, nC, nS, bo, wa, wc, hB.1, hx, hou, hgC, hgS, hb3, hb51, hb14, hb17, hp9, hm2, hgr⟩⟩, hF.sub hA9⟩
set_option maxHeartbeats 2000000 in
theorem k_contract (l : Launch) (hlt : l.stackTraces = false) (dC : Nat → ClassId) (dI : Nat → Nat → Nat) (kA : Nat → ClassId) (adK adV : Nat → Nat) (Pr : Nat → Prop) (H0 : Heap) (x ou : Nat) (p1 : Int32) (p2 : Int32) (p3 : Int32) (p4 : Int32)  (hPr : ∀ a, Pr a → a < H0.size) {gn : Int32} (hI : CJ dC dI kA Pr gn x ou H0) : Met l yL_contract w_l_contract ({ frames := 8, cells := 2, slots := 14, locals := 146 }) (va_Pc [.ref x, .int p1, .int p2, .int p3, .int p4, .ref ou] (fun U => U.heap = H0 ∧ va_K (dC, dI) vwCl (tyl kA) U ∧ EVC adK adV (fun q => ¬ Pr q) U U.heap ∧ NC U ∧ AO U)) (va_Qi (fun (r : Int32) (_ : Unit) => True) (fun (_ : Unit) (t : State) => CJ dC dI kA Pr gn x ou t.heap) (fun q => ¬ Pr q)) 2 14 (fun q => ¬ Pr q) := by
  obtain ⟨G, nC, nS, bo, wa, wc, hT, hx, hou, hgC, hgS, hb3, hb51, hb14, hb17, hp9, hm2, hgr⟩ := hI
  have hA9 := gA_pr hPr hp9
  refine Met.weak (l_contract (l := l) (hlt := hlt) (dC := dC) (dI := dI) (kA := kA) (adK := adK) (adV := adV) (G := G) (H0 := H0) (nC := nC) (nS := nS) (o0 := x) (p1 := p1) (p2 := p2) (p3 := p3) (p4 := p4) (ou := ou) (wa := wc) (hT := hT) (hr_o0 := hx) (hr_ou := hou) (hu_o0 := hb14) (hu_a0 := hb17) (hgC := hgC) (hgS := hgS)) (fun a U h => ⟨h.1, h.2.1, h.2.2.1, EVC.narrow h.2.2.2.1 hA9, h.2.2.2.2.1, h.2.2.2.2.2⟩) (fun a st oc t _ h => ?_) hA9
  obtain ⟨⟨r, u, e1, hp, hB⟩, hF⟩ := h
  obtain ⟨G1, n1, n2⟩ := u
  obtain ⟨hT1, hF9, hZ, h1, h2⟩ := hB
  exact ⟨⟨r, (), e1, trivial, ⟨G1, n1, n2, bo, wa, wc, hT1, hZ.1 _ _ hx, hZ.1 _ _ hou, h1, h2.1, hZ.uniq hb3 (by decide), hZ.uniq hb51 (by decide), hZ.uniq hb14 (by decide), hZ.uniq hb17 (by decide), hZ.pr hPr hp9, h2.2.trans hm2, hgr⟩⟩, hF.sub hA9⟩
set_option maxHeartbeats 2000000 in
theorem k_dike (l : Launch) (hlt : l.stackTraces = false) (dC : Nat → ClassId) (dI : Nat → Nat → Nat) (kA : Nat → ClassId) (adK adV : Nat → Nat) (Pr : Nat → Prop) (H0 : Heap) (x ou : Nat) (p1 : Int32) (p2 : Int32) (p3 : Int32) (p4 : Int32)  (hPr : ∀ a, Pr a → a < H0.size) {gn : Int32} (hI : CJ dC dI kA Pr gn x ou H0) : Met l yL_dike w_l_dike ({ frames := 8, cells := 4, slots := 24, locals := 144 }) (va_Pc [.ref x, .int p1, .int p2, .int p3, .int p4, .ref ou] (fun U => U.heap = H0 ∧ va_K (dC, dI) vwCl (tyl kA) U ∧ EVC adK adV (fun q => ¬ Pr q) U U.heap ∧ NC U ∧ AO U)) (va_Qi (fun (r : Int32) (_ : Unit) => True) (fun (_ : Unit) (t : State) => CJ dC dI kA Pr gn x ou t.heap) (fun q => ¬ Pr q)) 4 24 (fun q => ¬ Pr q) := by
  obtain ⟨G, nC, nS, bo, wa, wc, hT, hx, hou, hgC, hgS, hb3, hb51, hb14, hb17, hp9, hm2, hgr⟩ := hI
  have hA9 := gA_pr hPr hp9
  refine Met.weak (l_dike (l := l) (hlt := hlt) (dC := dC) (dI := dI) (kA := kA) (adK := adK) (adV := adV) (G := G) (H0 := H0) (nC := nC) (nS := nS) (o0 := x) (p1 := p1) (p2 := p2) (p3 := p3) (p4 := p4) (ou := ou) (hT := hT) (hr_o0 := hx) (hr_ou := hou) (hgC := hgC) (hgS := hgS)) (fun a U h => ⟨h.1, h.2.1, h.2.2.1, EVC.narrow h.2.2.2.1 hA9, h.2.2.2.2.1⟩) (fun a st oc t _ h => ?_) hA9
  obtain ⟨⟨r, u, e1, hp, hB⟩, hF⟩ := h
  exact ⟨⟨r, (), e1, trivial, ⟨G, nC, nS, bo, wa, wc, hB.1, hx, hou, hgC, hgS, hb3, hb51, hb14, hb17, hp9, hm2, hgr⟩⟩, hF.sub hA9⟩
set_option maxHeartbeats 2000000 in
theorem k_farm (l : Launch) (hlt : l.stackTraces = false) (dC : Nat → ClassId) (dI : Nat → Nat → Nat) (kA : Nat → ClassId) (adK adV : Nat → Nat) (Pr : Nat → Prop) (H0 : Heap) (x ou : Nat) (p1 : Int32) (p2 : Int32)  (hPr : ∀ a, Pr a → a < H0.size) {gn : Int32} (hI : CJ dC dI kA Pr gn x ou H0) : Met l yL_farm w_l_farm ({ frames := 8, cells := 2, slots := 12, locals := 142 }) (va_Pc [.ref x, .int p1, .int p2, .ref ou] (fun U => U.heap = H0 ∧ va_K (dC, dI) vwCl (tyl kA) U ∧ EVC adK adV (fun q => ¬ Pr q) U U.heap ∧ NC U ∧ AO U)) (va_Qi (fun (r : Int32) (_ : Unit) => True) (fun (_ : Unit) (t : State) => CJ dC dI kA Pr gn x ou t.heap) (fun q => ¬ Pr q)) 2 12 (fun q => ¬ Pr q) := by
  obtain ⟨G, nC, nS, bo, wa, wc, hT, hx, hou, hgC, hgS, hb3, hb51, hb14, hb17, hp9, hm2, hgr⟩ := hI
  have hA9 := gA_pr hPr hp9
  refine Met.weak (l_farm (l := l) (hlt := hlt) (dC := dC) (dI := dI) (kA := kA) (adK := adK) (adV := adV) (G := G) (H0 := H0) (nC := nC) (nS := nS) (o0 := x) (p1 := p1) (p2 := p2) (ou := ou) (hT := hT) (hr_o0 := hx) (hr_ou := hou) (hgC := hgC) (hgS := hgS)) (fun a U h => ⟨h.1, h.2.1, h.2.2.1, EVC.narrow h.2.2.2.1 hA9, h.2.2.2.2.1⟩) (fun a st oc t _ h => ?_) hA9
  obtain ⟨⟨r, u, e1, hp, hB⟩, hF⟩ := h
  exact ⟨⟨r, (), e1, trivial, ⟨G, nC, nS, bo, wa, wc, hB.1, hx, hou, hgC, hgS, hb3, hb51, hb14, hb17, hp9, hm2, hgr⟩⟩, hF.sub hA9⟩
set_option maxHeartbeats 2000000 in
theorem k_fill (l : Launch) (hlt : l.stackTraces = false) (dC : Nat → ClassId) (dI : Nat → Nat → Nat) (kA : Nat → ClassId) (adK adV : Nat → Nat) (Pr : Nat → Prop) (H0 : Heap) (x ou : Nat) (p1 : Int32) (p2 : Int32) (p3 : Int32)  (hPr : ∀ a, Pr a → a < H0.size) {gn : Int32} (hI : CJ dC dI kA Pr gn x ou H0) : Met l yL_fill w_l_fill ({ frames := 8, cells := 2, slots := 12, locals := 143 }) (va_Pc [.ref x, .int p1, .int p2, .int p3, .ref ou] (fun U => U.heap = H0 ∧ va_K (dC, dI) vwCl (tyl kA) U ∧ EVC adK adV (fun q => ¬ Pr q) U U.heap ∧ NC U ∧ AO U)) (va_Qi (fun (r : Int32) (_ : Unit) => True) (fun (_ : Unit) (t : State) => CJ dC dI kA Pr gn x ou t.heap) (fun q => ¬ Pr q)) 2 12 (fun q => ¬ Pr q) := by
  obtain ⟨G, nC, nS, bo, wa, wc, hT, hx, hou, hgC, hgS, hb3, hb51, hb14, hb17, hp9, hm2, hgr⟩ := hI
  have hA9 := gA_pr hPr hp9
  refine Met.weak (l_fill (l := l) (hlt := hlt) (dC := dC) (dI := dI) (kA := kA) (adK := adK) (adV := adV) (G := G) (H0 := H0) (nC := nC) (nS := nS) (o0 := x) (p1 := p1) (p2 := p2) (p3 := p3) (ou := ou) (hT := hT) (hr_o0 := hx) (hr_ou := hou) (hgC := hgC) (hgS := hgS)) (fun a U h => ⟨h.1, h.2.1, h.2.2.1, EVC.narrow h.2.2.2.1 hA9, h.2.2.2.2.1⟩) (fun a st oc t _ h => ?_) hA9
  obtain ⟨⟨r, u, e1, hp, hB⟩, hF⟩ := h
  exact ⟨⟨r, (), e1, trivial, ⟨G, nC, nS, bo, wa, wc, hB.1, hx, hou, hgC, hgS, hb3, hb51, hb14, hb17, hp9, hm2, hgr⟩⟩, hF.sub hA9⟩
set_option maxHeartbeats 2000000 in
theorem k_found (l : Launch) (hlt : l.stackTraces = false) (dC : Nat → ClassId) (dI : Nat → Nat → Nat) (kA : Nat → ClassId) (adK adV : Nat → Nat) (Pr : Nat → Prop) (H0 : Heap) (x ou : Nat)   (hPr : ∀ a, Pr a → a < H0.size) {gn : Int32} (hI : CJ dC dI kA Pr gn x ou H0) : Met l yL_found w_l_found ({ frames := 28, cells := 1, slots := 6, locals := 634 }) (va_Pc [.ref x, .ref ou] (fun U => U.heap = H0 ∧ va_K (dC, dI) vwCl (tyl kA) U ∧ EVC adK adV (fun q => ¬ Pr q) U U.heap ∧ NC U ∧ AO U)) (va_Qi (fun (r : Int32) (_ : Unit) => True) (fun (_ : Unit) (t : State) => CJ dC dI kA Pr gn x ou t.heap) (fun q => ¬ Pr q)) 1 6 (fun q => ¬ Pr q) := by
  obtain ⟨G, nC, nS, bo, wa, wc, hT, hx, hou, hgC, hgS, hb3, hb51, hb14, hb17, hp9, hm2, hgr⟩ := hI
  have hA9 := gA_pr hPr hp9
  refine Met.weak (l_found (l := l) (hlt := hlt) (dC := dC) (dI := dI) (kA := kA) (adK := adK) (adV := adV) (G := G) (H0 := H0) (nC := nC) (nS := nS) (o0 := x) (ou := ou) (hT := hT) (hr_o0 := hx) (hr_ou := hou) (hgC := hgC) (hgS := hgS)) (fun a U h => ⟨h.1, h.2.1, h.2.2.1, EVC.narrow h.2.2.2.1 hA9, h.2.2.2.2.1⟩) (fun a st oc t _ h => ?_) hA9
  obtain ⟨⟨r, u, e1, hp, hB⟩, hF⟩ := h
  exact ⟨⟨r, (), e1, trivial, ⟨G, nC, nS, bo, wa, wc, hB.1, hx, hou, hgC, hgS, hb3, hb51, hb14, hb17, hp9, hm2, hgr⟩⟩, hF.sub hA9⟩
set_option maxHeartbeats 2000000 in
theorem k_hours (l : Launch) (hlt : l.stackTraces = false) (dC : Nat → ClassId) (dI : Nat → Nat → Nat) (kA : Nat → ClassId) (adK adV : Nat → Nat) (Pr : Nat → Prop) (H0 : Heap) (x ou : Nat) (p1 : Int32)  (hPr : ∀ a, Pr a → a < H0.size) {gn : Int32} (hI : CJ dC dI kA Pr gn x ou H0) : Met l yL_hours w_l_hours ({ frames := 8, cells := 1, slots := 6, locals := 180 }) (va_Pc [.ref x, .int p1, .ref ou] (fun U => U.heap = H0 ∧ va_K (dC, dI) vwCl (tyl kA) U ∧ EVC adK adV (fun q => ¬ Pr q) U U.heap ∧ NC U ∧ AO U)) (va_Qi (fun (r : Int32) (_ : Unit) => True) (fun (_ : Unit) (t : State) => CJ dC dI kA Pr gn x ou t.heap) (fun q => ¬ Pr q)) 1 6 (fun q => ¬ Pr q) := by
  obtain ⟨G, nC, nS, bo, wa, wc, hT, hx, hou, hgC, hgS, hb3, hb51, hb14, hb17, hp9, hm2, hgr⟩ := hI
  have hA9 := gA_pr hPr hp9
  refine Met.weak (l_hours (l := l) (hlt := hlt) (dC := dC) (dI := dI) (kA := kA) (adK := adK) (adV := adV) (G := G) (H0 := H0) (nC := nC) (nS := nS) (o0 := x) (p1 := p1) (ou := ou) (hT := hT) (hr_o0 := hx) (hr_ou := hou) (hgC := hgC) (hgS := hgS)) (fun a U h => ⟨h.1, h.2.1, h.2.2.1, EVC.narrow h.2.2.2.1 hA9, h.2.2.2.2.1⟩) (fun a st oc t _ h => ?_) hA9
  obtain ⟨⟨r, u, e1, hp, hB⟩, hF⟩ := h
  exact ⟨⟨r, (), e1, trivial, ⟨G, nC, nS, bo, wa, wc, hB.1, hx, hou, hgC, hgS, hb3, hb51, hb14, hb17, hp9, hm2, hgr⟩⟩, hF.sub hA9⟩
set_option maxHeartbeats 2000000 in
theorem k_job (l : Launch) (hlt : l.stackTraces = false) (dC : Nat → ClassId) (dI : Nat → Nat → Nat) (kA : Nat → ClassId) (adK adV : Nat → Nat) (Pr : Nat → Prop) (H0 : Heap) (x ou : Nat) (p1 : Int32) (p2 : Int32) (p3 : Int32) (p4 : Int32)  (hPr : ∀ a, Pr a → a < H0.size) {gn : Int32} (hI : CJ dC dI kA Pr gn x ou H0) : Met l yL_job w_l_job ({ frames := 8, cells := 1, slots := 6, locals := 144 }) (va_Pc [.ref x, .int p1, .int p2, .int p3, .int p4, .ref ou] (fun U => U.heap = H0 ∧ va_K (dC, dI) vwCl (tyl kA) U ∧ EVC adK adV (fun q => ¬ Pr q) U U.heap ∧ NC U ∧ AO U)) (va_Qi (fun (r : Int32) (_ : Unit) => True) (fun (_ : Unit) (t : State) => CJ dC dI kA Pr gn x ou t.heap) (fun q => ¬ Pr q)) 1 6 (fun q => ¬ Pr q) := by
  obtain ⟨G, nC, nS, bo, wa, wc, hT, hx, hou, hgC, hgS, hb3, hb51, hb14, hb17, hp9, hm2, hgr⟩ := hI
  have hA9 := gA_pr hPr hp9
  refine Met.weak (l_job (l := l) (hlt := hlt) (dC := dC) (dI := dI) (kA := kA) (adK := adK) (adV := adV) (G := G) (H0 := H0) (nC := nC) (nS := nS) (o0 := x) (p1 := p1) (p2 := p2) (p3 := p3) (p4 := p4) (ou := ou) (hT := hT) (hr_o0 := hx) (hr_ou := hou) (hgC := hgC) (hgS := hgS)) (fun a U h => ⟨h.1, h.2.1, h.2.2.1, EVC.narrow h.2.2.2.1 hA9, h.2.2.2.2.1⟩) (fun a st oc t _ h => ?_) hA9
  obtain ⟨⟨r, u, e1, hp, hB⟩, hF⟩ := h
  exact ⟨⟨r, (), e1, trivial, ⟨G, nC, nS, bo, wa, wc, hB.1, hx, hou, hgC, hgS, hb3, hb51, hb14, hb17, hp9, hm2, hgr⟩⟩, hF.sub hA9⟩
set_option maxHeartbeats 2000000 in
theorem k_land (l : Launch) (hlt : l.stackTraces = false) (dC : Nat → ClassId) (dI : Nat → Nat → Nat) (kA : Nat → ClassId) (adK adV : Nat → Nat) (Pr : Nat → Prop) (H0 : Heap) (x ou : Nat) (p1 : Int32) (p2 : Int32) (p3 : Int32) (p4 : Int32) (p5 : Int32)  (hPr : ∀ a, Pr a → a < H0.size) {gn : Int32} (hI : CJ dC dI kA Pr gn x ou H0) : Met l yL_land w_l_land ({ frames := 8, cells := 3, slots := 18, locals := 147 }) (va_Pc [.ref x, .int p1, .int p2, .int p3, .int p4, .int p5, .ref ou] (fun U => U.heap = H0 ∧ va_K (dC, dI) vwCl (tyl kA) U ∧ EVC adK adV (fun q => ¬ Pr q) U U.heap ∧ NC U ∧ AO U)) (va_Qi (fun (r : Int32) (_ : Unit) => True) (fun (_ : Unit) (t : State) => CJ dC dI kA Pr gn x ou t.heap) (fun q => ¬ Pr q)) 3 18 (fun q => ¬ Pr q) := by
  obtain ⟨G, nC, nS, bo, wa, wc, hT, hx, hou, hgC, hgS, hb3, hb51, hb14, hb17, hp9, hm2, hgr⟩ := hI
  have hA9 := gA_pr hPr hp9
  refine Met.weak (l_land (l := l) (hlt := hlt) (dC := dC) (dI := dI) (kA := kA) (adK := adK) (adV := adV) (G := G) (H0 := H0) (nC := nC) (nS := nS) (o0 := x) (p1 := p1) (p2 := p2) (p3 := p3) (p4 := p4) (p5 := p5) (ou := ou) (hT := hT) (hr_o0 := hx) (hr_ou := hou) (hgC := hgC) (hgS := hgS)) (fun a U h => ⟨h.1, h.2.1, h.2.2.1, EVC.narrow h.2.2.2.1 hA9, h.2.2.2.2.1⟩) (fun a st oc t _ h => ?_) hA9
  obtain ⟨⟨r, u, e1, hp, hB⟩, hF⟩ := h
  exact ⟨⟨r, (), e1, trivial, ⟨G, nC, nS, bo, wa, wc, hB.1, hx, hou, hgC, hgS, hb3, hb51, hb14, hb17, hp9, hm2, hgr⟩⟩, hF.sub hA9⟩
set_option maxHeartbeats 2000000 in
theorem k_lawLevel (l : Launch) (hlt : l.stackTraces = false) (dC : Nat → ClassId) (dI : Nat → Nat → Nat) (kA : Nat → ClassId) (adK adV : Nat → Nat) (Pr : Nat → Prop) (H0 : Heap) (x ou : Nat) (p1 : Int32)  (hPr : ∀ a, Pr a → a < H0.size) {gn : Int32} (hI : CJ dC dI kA Pr gn x ou H0) : Met l yL_lawLevel w_l_lawLevel ({ frames := 8, cells := 1, slots := 6, locals := 142 }) (va_Pc [.ref x, .int p1, .ref ou] (fun U => U.heap = H0 ∧ va_K (dC, dI) vwCl (tyl kA) U ∧ EVC adK adV (fun q => ¬ Pr q) U U.heap ∧ NC U ∧ AO U)) (va_Qi (fun (r : Int32) (_ : Unit) => True) (fun (_ : Unit) (t : State) => CJ dC dI kA Pr gn x ou t.heap) (fun q => ¬ Pr q)) 1 6 (fun q => ¬ Pr q) := by
  obtain ⟨G, nC, nS, bo, wa, wc, hT, hx, hou, hgC, hgS, hb3, hb51, hb14, hb17, hp9, hm2, hgr⟩ := hI
  have hA9 := gA_pr hPr hp9
  refine Met.weak (l_lawLevel (l := l) (hlt := hlt) (dC := dC) (dI := dI) (kA := kA) (adK := adK) (adV := adV) (G := G) (H0 := H0) (nC := nC) (nS := nS) (o0 := x) (p1 := p1) (ou := ou) (hT := hT) (hr_o0 := hx) (hr_ou := hou) (hgC := hgC) (hgS := hgS)) (fun a U h => ⟨h.1, h.2.1, h.2.2.1, EVC.narrow h.2.2.2.1 hA9, h.2.2.2.2.1⟩) (fun a st oc t _ h => ?_) hA9
  obtain ⟨⟨r, u, e1, hp, hB⟩, hF⟩ := h
  exact ⟨⟨r, (), e1, trivial, ⟨G, nC, nS, bo, wa, wc, hB.1, hx, hou, hgC, hgS, hb3, hb51, hb14, hb17, hp9, hm2, hgr⟩⟩, hF.sub hA9⟩
set_option maxHeartbeats 2000000 in
theorem k_layer (l : Launch) (hlt : l.stackTraces = false) (dC : Nat → ClassId) (dI : Nat → Nat → Nat) (kA : Nat → ClassId) (adK adV : Nat → Nat) (Pr : Nat → Prop) (H0 : Heap) (x ou : Nat) (p1 : Int32) (p2 : Int32) (p3 : Int32)  (hPr : ∀ a, Pr a → a < H0.size) {gn : Int32} (hI : CJ dC dI kA Pr gn x ou H0) : Met l yL_layer w_l_layer ({ frames := 8, cells := 2, slots := 12, locals := 145 }) (va_Pc [.ref x, .int p1, .int p2, .int p3, .ref ou] (fun U => U.heap = H0 ∧ va_K (dC, dI) vwCl (tyl kA) U ∧ EVC adK adV (fun q => ¬ Pr q) U U.heap ∧ NC U ∧ AO U)) (va_Qi (fun (r : Int32) (_ : Unit) => True) (fun (_ : Unit) (t : State) => CJ dC dI kA Pr gn x ou t.heap) (fun q => ¬ Pr q)) 2 12 (fun q => ¬ Pr q) := by
  obtain ⟨G, nC, nS, bo, wa, wc, hT, hx, hou, hgC, hgS, hb3, hb51, hb14, hb17, hp9, hm2, hgr⟩ := hI
  have hA9 := gA_pr hPr hp9
  refine Met.weak (l_layer (l := l) (hlt := hlt) (dC := dC) (dI := dI) (kA := kA) (adK := adK) (adV := adV) (G := G) (H0 := H0) (nC := nC) (nS := nS) (o0 := x) (p1 := p1) (p2 := p2) (p3 := p3) (ou := ou) (hT := hT) (hr_o0 := hx) (hr_ou := hou) (hgC := hgC) (hgS := hgS)) (fun a U h => ⟨h.1, h.2.1, h.2.2.1, EVC.narrow h.2.2.2.1 hA9, h.2.2.2.2.1⟩) (fun a st oc t _ h => ?_) hA9
  obtain ⟨⟨r, u, e1, hp, hB⟩, hF⟩ := h
  exact ⟨⟨r, (), e1, trivial, ⟨G, nC, nS, bo, wa, wc, hB.1, hx, hou, hgC, hgS, hb3, hb51, hb14, hb17, hp9, hm2, hgr⟩⟩, hF.sub hA9⟩
set_option maxHeartbeats 2000000 in
theorem k_levels (l : Launch) (hlt : l.stackTraces = false) (dC : Nat → ClassId) (dI : Nat → Nat → Nat) (kA : Nat → ClassId) (adK adV : Nat → Nat) (Pr : Nat → Prop) (H0 : Heap) (x ou : Nat) (p1 : Int32) (p2 : Int32)  (hPr : ∀ a, Pr a → a < H0.size) {gn : Int32} (hI : CJ dC dI kA Pr gn x ou H0) : Met l yL_levels w_l_levels ({ frames := 11, cells := 2, slots := 12, locals := 287 }) (va_Pc [.ref x, .int p1, .int p2, .ref ou] (fun U => U.heap = H0 ∧ va_K (dC, dI) vwCl (tyl kA) U ∧ EVC adK adV (fun q => ¬ Pr q) U U.heap ∧ NC U ∧ AO U)) (va_Qi (fun (r : Int32) (_ : Unit) => True) (fun (_ : Unit) (t : State) => CJ dC dI kA Pr gn x ou t.heap) (fun q => ¬ Pr q)) 2 12 (fun q => ¬ Pr q) := by
  obtain ⟨G, nC, nS, bo, wa, wc, hT, hx, hou, hgC, hgS, hb3, hb51, hb14, hb17, hp9, hm2, hgr⟩ := hI
  have hA9 := gA_pr hPr hp9
  refine Met.weak (l_levels (l := l) (hlt := hlt) (dC := dC) (dI := dI) (kA := kA) (adK := adK) (adV := adV) (G := G) (H0 := H0) (nC := nC) (nS := nS) (o0 := x) (p1 := p1) (p2 := p2) (ou := ou) (hT := hT) (hr_o0 := hx) (hr_ou := hou) (hgC := hgC) (hgS := hgS)) (fun a U h => ⟨h.1, h.2.1, h.2.2.1, EVC.narrow h.2.2.2.1 hA9, h.2.2.2.2.1⟩) (fun a st oc t _ h => ?_) hA9
  obtain ⟨⟨r, u, e1, hp, hB⟩, hF⟩ := h
  exact ⟨⟨r, (), e1, trivial, ⟨G, nC, nS, bo, wa, wc, hB.1, hx, hou, hgC, hgS, hb3, hb51, hb14, hb17, hp9, hm2, hgr⟩⟩, hF.sub hA9⟩
set_option maxHeartbeats 2000000 in
theorem k_lifts (l : Launch) (hlt : l.stackTraces = false) (dC : Nat → ClassId) (dI : Nat → Nat → Nat) (kA : Nat → ClassId) (adK adV : Nat → Nat) (Pr : Nat → Prop) (H0 : Heap) (x ou : Nat) (p1 : Int32) (p2 : Int32) (p3 : Int32) (p4 : Int32)  (hPr : ∀ a, Pr a → a < H0.size) {gn : Int32} (hI : CJ dC dI kA Pr gn x ou H0) : Met l yL_lifts w_l_lifts ({ frames := 8, cells := 1, slots := 6, locals := 144 }) (va_Pc [.ref x, .int p1, .int p2, .int p3, .int p4, .ref ou] (fun U => U.heap = H0 ∧ va_K (dC, dI) vwCl (tyl kA) U ∧ EVC adK adV (fun q => ¬ Pr q) U U.heap ∧ NC U ∧ AO U)) (va_Qi (fun (r : Int32) (_ : Unit) => True) (fun (_ : Unit) (t : State) => CJ dC dI kA Pr gn x ou t.heap) (fun q => ¬ Pr q)) 1 6 (fun q => ¬ Pr q) := by
  obtain ⟨G, nC, nS, bo, wa, wc, hT, hx, hou, hgC, hgS, hb3, hb51, hb14, hb17, hp9, hm2, hgr⟩ := hI
  have hA9 := gA_pr hPr hp9
  refine Met.weak (l_lifts (l := l) (hlt := hlt) (dC := dC) (dI := dI) (kA := kA) (adK := adK) (adV := adV) (G := G) (H0 := H0) (nC := nC) (nS := nS) (o0 := x) (p1 := p1) (p2 := p2) (p3 := p3) (p4 := p4) (ou := ou) (hT := hT) (hr_o0 := hx) (hr_ou := hou) (hgC := hgC) (hgS := hgS)) (fun a U h => ⟨h.1, h.2.1, h.2.2.1, EVC.narrow h.2.2.2.1 hA9, h.2.2.2.2.1⟩) (fun a st oc t _ h => ?_) hA9
  obtain ⟨⟨r, u, e1, hp, hB⟩, hF⟩ := h
  exact ⟨⟨r, (), e1, trivial, ⟨G, nC, nS, bo, wa, wc, hB.1, hx, hou, hgC, hgS, hb3, hb51, hb14, hb17, hp9, hm2, hgr⟩⟩, hF.sub hA9⟩
set_option maxHeartbeats 2000000 in
theorem k_mayBuild (l : Launch) (hlt : l.stackTraces = false) (dC : Nat → ClassId) (dI : Nat → Nat → Nat) (kA : Nat → ClassId) (adK adV : Nat → Nat) (Pr : Nat → Prop) (H0 : Heap) (x ou : Nat) (p1 : Int32)  (hPr : ∀ a, Pr a → a < H0.size) {gn : Int32} (hI : CJ dC dI kA Pr gn x ou H0) : Met l yL_mayBuild w_l_mayBuild ({ frames := 8, cells := 1, slots := 6, locals := 141 }) (va_Pc [.ref x, .int p1, .ref ou] (fun U => U.heap = H0 ∧ va_K (dC, dI) vwCl (tyl kA) U ∧ EVC adK adV (fun q => ¬ Pr q) U U.heap ∧ NC U ∧ AO U)) (va_Qi (fun (r : Int32) (_ : Unit) => True) (fun (_ : Unit) (t : State) => CJ dC dI kA Pr gn x ou t.heap) (fun q => ¬ Pr q)) 1 6 (fun q => ¬ Pr q) := by
  obtain ⟨G, nC, nS, bo, wa, wc, hT, hx, hou, hgC, hgS, hb3, hb51, hb14, hb17, hp9, hm2, hgr⟩ := hI
  have hA9 := gA_pr hPr hp9
  refine Met.weak (l_mayBuild (l := l) (hlt := hlt) (dC := dC) (dI := dI) (kA := kA) (adK := adK) (adV := adV) (G := G) (H0 := H0) (nC := nC) (nS := nS) (o0 := x) (p1 := p1) (ou := ou) (hT := hT) (hr_o0 := hx) (hr_ou := hou) (hgC := hgC) (hgS := hgS)) (fun a U h => ⟨h.1, h.2.1, h.2.2.1, EVC.narrow h.2.2.2.1 hA9, h.2.2.2.2.1⟩) (fun a st oc t _ h => ?_) hA9
  obtain ⟨⟨r, u, e1, hp, hB⟩, hF⟩ := h
  exact ⟨⟨r, (), e1, trivial, ⟨G, nC, nS, bo, wa, wc, hB.1, hx, hou, hgC, hgS, hb3, hb51, hb14, hb17, hp9, hm2, hgr⟩⟩, hF.sub hA9⟩
set_option maxHeartbeats 2000000 in
theorem k_measure (l : Launch) (hlt : l.stackTraces = false) (dC : Nat → ClassId) (dI : Nat → Nat → Nat) (kA : Nat → ClassId) (adK adV : Nat → Nat) (Pr : Nat → Prop) (H0 : Heap) (x ou : Nat) (p1 : Int32) (p2 : Int32)  (hPr : ∀ a, Pr a → a < H0.size) {gn : Int32} (hI : CJ dC dI kA Pr gn x ou H0) : Met l yL_measure w_l_measure ({ frames := 8, cells := 2, slots := 12, locals := 144 }) (va_Pc [.ref x, .int p1, .int p2, .ref ou] (fun U => U.heap = H0 ∧ va_K (dC, dI) vwCl (tyl kA) U ∧ EVC adK adV (fun q => ¬ Pr q) U U.heap ∧ NC U ∧ AO U)) (va_Qi (fun (r : Int32) (_ : Unit) => True) (fun (_ : Unit) (t : State) => CJ dC dI kA Pr gn x ou t.heap) (fun q => ¬ Pr q)) 2 12 (fun q => ¬ Pr q) := by
  obtain ⟨G, nC, nS, bo, wa, wc, hT, hx, hou, hgC, hgS, hb3, hb51, hb14, hb17, hp9, hm2, hgr⟩ := hI
  have hA9 := gA_pr hPr hp9
  refine Met.weak (l_measure (l := l) (hlt := hlt) (dC := dC) (dI := dI) (kA := kA) (adK := adK) (adV := adV) (G := G) (H0 := H0) (nC := nC) (nS := nS) (o0 := x) (p1 := p1) (p2 := p2) (ou := ou) (hT := hT) (hr_o0 := hx) (hr_ou := hou) (hgC := hgC) (hgS := hgS)) (fun a U h => ⟨h.1, h.2.1, h.2.2.1, EVC.narrow h.2.2.2.1 hA9, h.2.2.2.2.1⟩) (fun a st oc t _ h => ?_) hA9
  obtain ⟨⟨r, u, e1, hp, hB⟩, hF⟩ := h
  exact ⟨⟨r, (), e1, trivial, ⟨G, nC, nS, bo, wa, wc, hB.1, hx, hou, hgC, hgS, hb3, hb51, hb14, hb17, hp9, hm2, hgr⟩⟩, hF.sub hA9⟩
set_option maxHeartbeats 2000000 in
theorem k_mill (l : Launch) (hlt : l.stackTraces = false) (dC : Nat → ClassId) (dI : Nat → Nat → Nat) (kA : Nat → ClassId) (adK adV : Nat → Nat) (Pr : Nat → Prop) (H0 : Heap) (x ou : Nat) (p1 : Int32) (p2 : Int32) (p3 : Int32) (p4 : Int32) (hq4 : 0 ≤ p4.toInt ∧ p4.toInt ≤ 1) (hPr : ∀ a, Pr a → a < H0.size) {gn : Int32} (hI : CJ dC dI kA Pr gn x ou H0) : Met l yL_mill w_l_mill ({ frames := 8, cells := 3, slots := 18, locals := 144 }) (va_Pc [.ref x, .int p1, .int p2, .int p3, .int p4, .ref ou] (fun U => U.heap = H0 ∧ va_K (dC, dI) vwCl (tyl kA) U ∧ EVC adK adV (fun q => ¬ Pr q) U U.heap ∧ NC U ∧ AO U)) (va_Qi (fun (r : Int32) (_ : Unit) => True) (fun (_ : Unit) (t : State) => CJ dC dI kA Pr gn x ou t.heap) (fun q => ¬ Pr q)) 3 18 (fun q => ¬ Pr q) := by
  obtain ⟨G, nC, nS, bo, wa, wc, hT, hx, hou, hgC, hgS, hb3, hb51, hb14, hb17, hp9, hm2, hgr⟩ := hI
  have hA9 := gA_pr hPr hp9
  refine Met.weak (l_mill (l := l) (hlt := hlt) (dC := dC) (dI := dI) (kA := kA) (adK := adK) (adV := adV) (G := G) (H0 := H0) (nC := nC) (nS := nS) (o0 := x) (p1 := p1) (p2 := p2) (p3 := p3) (p4 := p4) (ou := ou) (hT := hT) (hr_o0 := hx) (hq4 := hq4) (hr_ou := hou) (hgC := hgC) (hgS := hgS)) (fun a U h => ⟨h.1, h.2.1, h.2.2.1, EVC.narrow h.2.2.2.1 hA9, h.2.2.2.2.1⟩) (fun a st oc t _ h => ?_) hA9
  obtain ⟨⟨r, u, e1, hp, hB⟩, hF⟩ := h
  exact ⟨⟨r, (), e1, trivial, ⟨G, nC, nS, bo, wa, wc, hB.1, hx, hou, hgC, hgS, hb3, hb51, hb14, hb17, hp9, hm2, hgr⟩⟩, hF.sub hA9⟩
set_option maxHeartbeats 2000000 in
theorem k_order (l : Launch) (hlt : l.stackTraces = false) (dC : Nat → ClassId) (dI : Nat → Nat → Nat) (kA : Nat → ClassId) (adK adV : Nat → Nat) (Pr : Nat → Prop) (H0 : Heap) (x ou : Nat) (p1 : Int32) (p2 : Int32)  (hPr : ∀ a, Pr a → a < H0.size) {gn : Int32} (hI : CJ dC dI kA Pr gn x ou H0) : Met l yL_order w_l_order ({ frames := 12, cells := 1, slots := 6, locals := 343 }) (va_Pc [.ref x, .int p1, .int p2, .ref ou] (fun U => U.heap = H0 ∧ va_K (dC, dI) vwCl (tyl kA) U ∧ EVC adK adV (fun q => ¬ Pr q) U U.heap ∧ NC U ∧ AO U)) (va_Qi (fun (r : Int32) (_ : Unit) => True) (fun (_ : Unit) (t : State) => CJ dC dI kA Pr gn x ou t.heap) (fun q => ¬ Pr q)) 1 6 (fun q => ¬ Pr q) := by
  obtain ⟨G, nC, nS, bo, wa, wc, hT, hx, hou, hgC, hgS, hb3, hb51, hb14, hb17, hp9, hm2, hgr⟩ := hI
  have hA9 := gA_pr hPr hp9
  refine Met.weak (l_order (l := l) (hlt := hlt) (dC := dC) (dI := dI) (kA := kA) (adK := adK) (adV := adV) (G := G) (H0 := H0) (nC := nC) (nS := nS) (o0 := x) (p1 := p1) (p2 := p2) (ou := ou) (hT := hT) (hr_o0 := hx) (hr_ou := hou) (hgC := hgC) (hgS := hgS)) (fun a U h => ⟨h.1, h.2.1, h.2.2.1, EVC.narrow h.2.2.2.1 hA9, h.2.2.2.2.1⟩) (fun a st oc t _ h => ?_) hA9
  obtain ⟨⟨r, u, e1, hp, hB⟩, hF⟩ := h
  exact ⟨⟨r, (), e1, trivial, ⟨G, nC, nS, bo, wa, wc, hB.1, hx, hou, hgC, hgS, hb3, hb51, hb14, hb17, hp9, hm2, hgr⟩⟩, hF.sub hA9⟩
set_option maxHeartbeats 2000000 in
theorem k_pay (l : Launch) (hlt : l.stackTraces = false) (dC : Nat → ClassId) (dI : Nat → Nat → Nat) (kA : Nat → ClassId) (adK adV : Nat → Nat) (Pr : Nat → Prop) (H0 : Heap) (x ou : Nat) (p1 : Int32)  (hPr : ∀ a, Pr a → a < H0.size) {gn : Int32} (hI : CJ dC dI kA Pr gn x ou H0) : Met l yL_pay w_l_pay ({ frames := 8, cells := 1, slots := 6, locals := 147 }) (va_Pc [.ref x, .int p1, .ref ou] (fun U => U.heap = H0 ∧ va_K (dC, dI) vwCl (tyl kA) U ∧ EVC adK adV (fun q => ¬ Pr q) U U.heap ∧ NC U ∧ AO U)) (va_Qi (fun (r : Int32) (_ : Unit) => True) (fun (_ : Unit) (t : State) => CJ dC dI kA Pr gn x ou t.heap) (fun q => ¬ Pr q)) 1 6 (fun q => ¬ Pr q) := by
  obtain ⟨G, nC, nS, bo, wa, wc, hT, hx, hou, hgC, hgS, hb3, hb51, hb14, hb17, hp9, hm2, hgr⟩ := hI
  have hA9 := gA_pr hPr hp9
  refine Met.weak (l_pay (l := l) (hlt := hlt) (dC := dC) (dI := dI) (kA := kA) (adK := adK) (adV := adV) (G := G) (H0 := H0) (nC := nC) (nS := nS) (o0 := x) (p1 := p1) (ou := ou) (hT := hT) (hr_o0 := hx) (hr_ou := hou) (hgC := hgC) (hgS := hgS)) (fun a U h => ⟨h.1, h.2.1, h.2.2.1, EVC.narrow h.2.2.2.1 hA9, h.2.2.2.2.1⟩) (fun a st oc t _ h => ?_) hA9
  obtain ⟨⟨r, u, e1, hp, hB⟩, hF⟩ := h
  exact ⟨⟨r, (), e1, trivial, ⟨G, nC, nS, bo, wa, wc, hB.1, hx, hou, hgC, hgS, hb3, hb51, hb14, hb17, hp9, hm2, hgr⟩⟩, hF.sub hA9⟩
set_option maxHeartbeats 2000000 in
theorem k_propose (l : Launch) (hlt : l.stackTraces = false) (dC : Nat → ClassId) (dI : Nat → Nat → Nat) (kA : Nat → ClassId) (adK adV : Nat → Nat) (Pr : Nat → Prop) (H0 : Heap) (x ou : Nat)   (hPr : ∀ a, Pr a → a < H0.size) {gn : Int32} (hI : CJ dC dI kA Pr gn x ou H0) : Met l yL_propose w_l_propose ({ frames := 28, cells := 1, slots := 6, locals := 634 }) (va_Pc [.ref x, .ref ou] (fun U => U.heap = H0 ∧ va_K (dC, dI) vwCl (tyl kA) U ∧ EVC adK adV (fun q => ¬ Pr q) U U.heap ∧ NC U ∧ AO U)) (va_Qi (fun (r : Int32) (_ : Unit) => True) (fun (_ : Unit) (t : State) => CJ dC dI kA Pr gn x ou t.heap) (fun q => ¬ Pr q)) 1 6 (fun q => ¬ Pr q) := by
  obtain ⟨G, nC, nS, bo, wa, wc, hT, hx, hou, hgC, hgS, hb3, hb51, hb14, hb17, hp9, hm2, hgr⟩ := hI
  have hA9 := gA_pr hPr hp9
  refine Met.weak (l_propose (l := l) (hlt := hlt) (dC := dC) (dI := dI) (kA := kA) (adK := adK) (adV := adV) (G := G) (H0 := H0) (nC := nC) (nS := nS) (o0 := x) (ou := ou) (hT := hT) (hr_o0 := hx) (hr_ou := hou) (hgC := hgC) (hgS := hgS)) (fun a U h => ⟨h.1, h.2.1, h.2.2.1, EVC.narrow h.2.2.2.1 hA9, h.2.2.2.2.1⟩) (fun a st oc t _ h => ?_) hA9
  obtain ⟨⟨r, u, e1, hp, hB⟩, hF⟩ := h
  exact ⟨⟨r, (), e1, trivial, ⟨G, nC, nS, bo, wa, wc, hB.1, hx, hou, hgC, hgS, hb3, hb51, hb14, hb17, hp9, hm2, hgr⟩⟩, hF.sub hA9⟩
set_option maxHeartbeats 2000000 in
theorem k_row (l : Launch) (hlt : l.stackTraces = false) (dC : Nat → ClassId) (dI : Nat → Nat → Nat) (kA : Nat → ClassId) (adK adV : Nat → Nat) (Pr : Nat → Prop) (H0 : Heap) (x ou : Nat) (p1 : Int32) (p2 : Int32)  (hPr : ∀ a, Pr a → a < H0.size) {gn : Int32} (hI : CJ dC dI kA Pr gn x ou H0) : Met l yL_row w_l_row ({ frames := 8, cells := 2, slots := 12, locals := 143 }) (va_Pc [.ref x, .int p1, .int p2, .ref ou] (fun U => U.heap = H0 ∧ va_K (dC, dI) vwCl (tyl kA) U ∧ EVC adK adV (fun q => ¬ Pr q) U U.heap ∧ NC U ∧ AO U)) (va_Qi (fun (r : Int32) (_ : Unit) => True) (fun (_ : Unit) (t : State) => CJ dC dI kA Pr gn x ou t.heap) (fun q => ¬ Pr q)) 2 12 (fun q => ¬ Pr q) := by
  obtain ⟨G, nC, nS, bo, wa, wc, hT, hx, hou, hgC, hgS, hb3, hb51, hb14, hb17, hp9, hm2, hgr⟩ := hI
  have hA9 := gA_pr hPr hp9
  refine Met.weak (l_row (l := l) (hlt := hlt) (dC := dC) (dI := dI) (kA := kA) (adK := adK) (adV := adV) (G := G) (H0 := H0) (nC := nC) (nS := nS) (o0 := x) (p1 := p1) (p2 := p2) (ou := ou) (hT := hT) (hr_o0 := hx) (hr_ou := hou) (hgC := hgC) (hgS := hgS)) (fun a U h => ⟨h.1, h.2.1, h.2.2.1, EVC.narrow h.2.2.2.1 hA9, h.2.2.2.2.1⟩) (fun a st oc t _ h => ?_) hA9
  obtain ⟨⟨r, u, e1, hp, hB⟩, hF⟩ := h
  exact ⟨⟨r, (), e1, trivial, ⟨G, nC, nS, bo, wa, wc, hB.1, hx, hou, hgC, hgS, hb3, hb51, hb14, hb17, hp9, hm2, hgr⟩⟩, hF.sub hA9⟩
set_option maxHeartbeats 2000000 in
theorem k_rules (l : Launch) (hlt : l.stackTraces = false) (dC : Nat → ClassId) (dI : Nat → Nat → Nat) (kA : Nat → ClassId) (adK adV : Nat → Nat) (Pr : Nat → Prop) (H0 : Heap) (x ou : Nat) (p1 : Int32) (p2 : Int32)  (hPr : ∀ a, Pr a → a < H0.size) {gn : Int32} (hI : CJ dC dI kA Pr gn x ou H0) : Met l yL_rules w_l_rules ({ frames := 8, cells := 2, slots := 12, locals := 159 }) (va_Pc [.ref x, .int p1, .int p2, .ref ou] (fun U => U.heap = H0 ∧ va_K (dC, dI) vwCl (tyl kA) U ∧ EVC adK adV (fun q => ¬ Pr q) U U.heap ∧ NC U ∧ AO U)) (va_Qi (fun (r : Int32) (_ : Unit) => True) (fun (_ : Unit) (t : State) => CJ dC dI kA Pr gn x ou t.heap) (fun q => ¬ Pr q)) 2 12 (fun q => ¬ Pr q) := by
  obtain ⟨G, nC, nS, bo, wa, wc, hT, hx, hou, hgC, hgS, hb3, hb51, hb14, hb17, hp9, hm2, hgr⟩ := hI
  have hA9 := gA_pr hPr hp9
  refine Met.weak (l_rules (l := l) (hlt := hlt) (dC := dC) (dI := dI) (kA := kA) (adK := adK) (adV := adV) (G := G) (H0 := H0) (nC := nC) (nS := nS) (o0 := x) (p1 := p1) (p2 := p2) (ou := ou) (hT := hT) (hr_o0 := hx) (hr_ou := hou) (hgC := hgC) (hgS := hgS)) (fun a U h => ⟨h.1, h.2.1, h.2.2.1, EVC.narrow h.2.2.2.1 hA9, h.2.2.2.2.1⟩) (fun a st oc t _ h => ?_) hA9
  obtain ⟨⟨r, u, e1, hp, hB⟩, hF⟩ := h
  exact ⟨⟨r, (), e1, trivial, ⟨G, nC, nS, bo, wa, wc, hB.1, hx, hou, hgC, hgS, hb3, hb51, hb14, hb17, hp9, hm2, hgr⟩⟩, hF.sub hA9⟩
set_option maxHeartbeats 2000000 in
theorem k_seep (l : Launch) (hlt : l.stackTraces = false) (dC : Nat → ClassId) (dI : Nat → Nat → Nat) (kA : Nat → ClassId) (adK adV : Nat → Nat) (Pr : Nat → Prop) (H0 : Heap) (x ou : Nat) (p1 : Int32) (p2 : Int32)  (hPr : ∀ a, Pr a → a < H0.size) {gn : Int32} (hI : CJ dC dI kA Pr gn x ou H0) : Met l yL_seep w_l_seep ({ frames := 8, cells := 2, slots := 12, locals := 144 }) (va_Pc [.ref x, .int p1, .int p2, .ref ou] (fun U => U.heap = H0 ∧ va_K (dC, dI) vwCl (tyl kA) U ∧ EVC adK adV (fun q => ¬ Pr q) U U.heap ∧ NC U ∧ AO U)) (va_Qi (fun (r : Int32) (_ : Unit) => True) (fun (_ : Unit) (t : State) => CJ dC dI kA Pr gn x ou t.heap) (fun q => ¬ Pr q)) 2 12 (fun q => ¬ Pr q) := by
  obtain ⟨G, nC, nS, bo, wa, wc, hT, hx, hou, hgC, hgS, hb3, hb51, hb14, hb17, hp9, hm2, hgr⟩ := hI
  have hA9 := gA_pr hPr hp9
  refine Met.weak (l_seep (l := l) (hlt := hlt) (dC := dC) (dI := dI) (kA := kA) (adK := adK) (adV := adV) (G := G) (H0 := H0) (nC := nC) (nS := nS) (o0 := x) (p1 := p1) (p2 := p2) (ou := ou) (hT := hT) (hr_o0 := hx) (hr_ou := hou) (hgC := hgC) (hgS := hgS)) (fun a U h => ⟨h.1, h.2.1, h.2.2.1, EVC.narrow h.2.2.2.1 hA9, h.2.2.2.2.1⟩) (fun a st oc t _ h => ?_) hA9
  obtain ⟨⟨r, u, e1, hp, hB⟩, hF⟩ := h
  exact ⟨⟨r, (), e1, trivial, ⟨G, nC, nS, bo, wa, wc, hB.1, hx, hou, hgC, hgS, hb3, hb51, hb14, hb17, hp9, hm2, hgr⟩⟩, hF.sub hA9⟩
set_option maxHeartbeats 2000000 in
theorem k_shut (l : Launch) (hlt : l.stackTraces = false) (dC : Nat → ClassId) (dI : Nat → Nat → Nat) (kA : Nat → ClassId) (adK adV : Nat → Nat) (Pr : Nat → Prop) (H0 : Heap) (x ou : Nat) (p1 : Int32)  (hPr : ∀ a, Pr a → a < H0.size) {gn : Int32} (hI : CJ dC dI kA Pr gn x ou H0) : Met l yL_shut w_l_shut ({ frames := 8, cells := 2, slots := 12, locals := 143 }) (va_Pc [.ref x, .int p1, .ref ou] (fun U => U.heap = H0 ∧ va_K (dC, dI) vwCl (tyl kA) U ∧ EVC adK adV (fun q => ¬ Pr q) U U.heap ∧ NC U ∧ AO U)) (va_Qi (fun (r : Int32) (_ : Unit) => True) (fun (_ : Unit) (t : State) => CJ dC dI kA Pr gn x ou t.heap) (fun q => ¬ Pr q)) 2 12 (fun q => ¬ Pr q) := by
  obtain ⟨G, nC, nS, bo, wa, wc, hT, hx, hou, hgC, hgS, hb3, hb51, hb14, hb17, hp9, hm2, hgr⟩ := hI
  have hA9 := gA_pr hPr hp9
  refine Met.weak (l_shut (l := l) (hlt := hlt) (dC := dC) (dI := dI) (kA := kA) (adK := adK) (adV := adV) (G := G) (H0 := H0) (nC := nC) (nS := nS) (o0 := x) (p1 := p1) (ou := ou) (hT := hT) (hr_o0 := hx) (hr_ou := hou) (hgC := hgC) (hgS := hgS)) (fun a U h => ⟨h.1, h.2.1, h.2.2.1, EVC.narrow h.2.2.2.1 hA9, h.2.2.2.2.1⟩) (fun a st oc t _ h => ?_) hA9
  obtain ⟨⟨r, u, e1, hp, hB⟩, hF⟩ := h
  exact ⟨⟨r, (), e1, trivial, ⟨G, nC, nS, bo, wa, wc, hB.1, hx, hou, hgC, hgS, hb3, hb51, hb14, hb17, hp9, hm2, hgr⟩⟩, hF.sub hA9⟩
set_option maxHeartbeats 2000000 in
theorem k_sky (l : Launch) (hlt : l.stackTraces = false) (dC : Nat → ClassId) (dI : Nat → Nat → Nat) (kA : Nat → ClassId) (adK adV : Nat → Nat) (Pr : Nat → Prop) (H0 : Heap) (x ou : Nat) (p1 : Int32) (p2 : Int32)  (hPr : ∀ a, Pr a → a < H0.size) {gn : Int32} (hI : CJ dC dI kA Pr gn x ou H0) : Met l yL_sky w_l_sky ({ frames := 7, cells := 1, slots := 6, locals := 122 }) (va_Pc [.ref x, .int p1, .int p2, .ref ou] (fun U => U.heap = H0 ∧ va_K (dC, dI) vwCl (tyl kA) U ∧ EVC adK adV (fun q => ¬ Pr q) U U.heap ∧ NC U ∧ AO U)) (va_Qi (fun (r : Int32) (_ : Unit) => True) (fun (_ : Unit) (t : State) => CJ dC dI kA Pr gn x ou t.heap) (fun q => ¬ Pr q)) 1 6 (fun q => ¬ Pr q) := by
  obtain ⟨G, nC, nS, bo, wa, wc, hT, hx, hou, hgC, hgS, hb3, hb51, hb14, hb17, hp9, hm2, hgr⟩ := hI
  have hA9 := gA_pr hPr hp9
  refine Met.weak (l_sky (l := l) (hlt := hlt) (dC := dC) (dI := dI) (kA := kA) (adK := adK) (adV := adV) (G := G) (H0 := H0) (nC := nC) (nS := nS) (o0 := x) (p1 := p1) (p2 := p2) (ou := ou) (hT := hT) (hr_o0 := hx) (hr_ou := hou) (hgC := hgC) (hgS := hgS)) (fun a U h => ⟨h.1, h.2.1, h.2.2.1, EVC.narrow h.2.2.2.1 hA9, h.2.2.2.2.1⟩) (fun a st oc t _ h => ?_) hA9
  obtain ⟨⟨r, u, e1, hp, hB⟩, hF⟩ := h
  exact ⟨⟨r, (), e1, trivial, ⟨G, nC, nS, bo, wa, wc, hB.1, hx, hou, hgC, hgS, hb3, hb51, hb14, hb17, hp9, hm2, hgr⟩⟩, hF.sub hA9⟩
set_option maxHeartbeats 2000000 in
theorem k_sluice (l : Launch) (hlt : l.stackTraces = false) (dC : Nat → ClassId) (dI : Nat → Nat → Nat) (kA : Nat → ClassId) (adK adV : Nat → Nat) (Pr : Nat → Prop) (H0 : Heap) (x ou : Nat) (p1 : Int32) (p2 : Int32) (p3 : Int32)  (hPr : ∀ a, Pr a → a < H0.size) {gn : Int32} (hI : CJ dC dI kA Pr gn x ou H0) : Met l yL_sluice w_l_sluice ({ frames := 8, cells := 3, slots := 18, locals := 143 }) (va_Pc [.ref x, .int p1, .int p2, .int p3, .ref ou] (fun U => U.heap = H0 ∧ va_K (dC, dI) vwCl (tyl kA) U ∧ EVC adK adV (fun q => ¬ Pr q) U U.heap ∧ NC U ∧ AO U)) (va_Qi (fun (r : Int32) (_ : Unit) => True) (fun (_ : Unit) (t : State) => CJ dC dI kA Pr gn x ou t.heap) (fun q => ¬ Pr q)) 3 18 (fun q => ¬ Pr q) := by
  obtain ⟨G, nC, nS, bo, wa, wc, hT, hx, hou, hgC, hgS, hb3, hb51, hb14, hb17, hp9, hm2, hgr⟩ := hI
  have hA9 := gA_pr hPr hp9
  refine Met.weak (l_sluice (l := l) (hlt := hlt) (dC := dC) (dI := dI) (kA := kA) (adK := adK) (adV := adV) (G := G) (H0 := H0) (nC := nC) (nS := nS) (o0 := x) (p1 := p1) (p2 := p2) (p3 := p3) (ou := ou) (hT := hT) (hr_o0 := hx) (hr_ou := hou) (hgC := hgC) (hgS := hgS)) (fun a U h => ⟨h.1, h.2.1, h.2.2.1, EVC.narrow h.2.2.2.1 hA9, h.2.2.2.2.1⟩) (fun a st oc t _ h => ?_) hA9
  obtain ⟨⟨r, u, e1, hp, hB⟩, hF⟩ := h
  exact ⟨⟨r, (), e1, trivial, ⟨G, nC, nS, bo, wa, wc, hB.1, hx, hou, hgC, hgS, hb3, hb51, hb14, hb17, hp9, hm2, hgr⟩⟩, hF.sub hA9⟩
set_option maxHeartbeats 2000000 in
theorem k_soonest (l : Launch) (hlt : l.stackTraces = false) (dC : Nat → ClassId) (dI : Nat → Nat → Nat) (kA : Nat → ClassId) (adK adV : Nat → Nat) (Pr : Nat → Prop) (H0 : Heap) (x ou : Nat) (p1 : Int32) (p2 : Int32) (p3 : Int32)  (hPr : ∀ a, Pr a → a < H0.size) {gn : Int32} (hI : CJ dC dI kA Pr gn x ou H0) : Met l yL_soonest w_l_soonest ({ frames := 8, cells := 2, slots := 12, locals := 145 }) (va_Pc [.ref x, .int p1, .int p2, .int p3, .ref ou] (fun U => U.heap = H0 ∧ va_K (dC, dI) vwCl (tyl kA) U ∧ EVC adK adV (fun q => ¬ Pr q) U U.heap ∧ NC U ∧ AO U)) (va_Qi (fun (r : Int32) (_ : Unit) => True) (fun (_ : Unit) (t : State) => CJ dC dI kA Pr gn x ou t.heap) (fun q => ¬ Pr q)) 2 12 (fun q => ¬ Pr q) := by
  obtain ⟨G, nC, nS, bo, wa, wc, hT, hx, hou, hgC, hgS, hb3, hb51, hb14, hb17, hp9, hm2, hgr⟩ := hI
  have hA9 := gA_pr hPr hp9
  refine Met.weak (l_soonest (l := l) (hlt := hlt) (dC := dC) (dI := dI) (kA := kA) (adK := adK) (adV := adV) (G := G) (H0 := H0) (nC := nC) (nS := nS) (o0 := x) (p1 := p1) (p2 := p2) (p3 := p3) (ou := ou) (hT := hT) (hr_o0 := hx) (hr_ou := hou) (hgC := hgC) (hgS := hgS)) (fun a U h => ⟨h.1, h.2.1, h.2.2.1, EVC.narrow h.2.2.2.1 hA9, h.2.2.2.2.1⟩) (fun a st oc t _ h => ?_) hA9
  obtain ⟨⟨r, u, e1, hp, hB⟩, hF⟩ := h
  exact ⟨⟨r, (), e1, trivial, ⟨G, nC, nS, bo, wa, wc, hB.1, hx, hou, hgC, hgS, hb3, hb51, hb14, hb17, hp9, hm2, hgr⟩⟩, hF.sub hA9⟩
set_option maxHeartbeats 2000000 in
theorem k_sow (l : Launch) (hlt : l.stackTraces = false) (dC : Nat → ClassId) (dI : Nat → Nat → Nat) (kA : Nat → ClassId) (adK adV : Nat → Nat) (Pr : Nat → Prop) (H0 : Heap) (x ou : Nat) (p1 : Int32) (p2 : Int32)  (hPr : ∀ a, Pr a → a < H0.size) {gn : Int32} (hI : CJ dC dI kA Pr gn x ou H0) : Met l yL_sow w_l_sow ({ frames := 8, cells := 2, slots := 12, locals := 144 }) (va_Pc [.ref x, .int p1, .int p2, .ref ou] (fun U => U.heap = H0 ∧ va_K (dC, dI) vwCl (tyl kA) U ∧ EVC adK adV (fun q => ¬ Pr q) U U.heap ∧ NC U ∧ AO U)) (va_Qi (fun (r : Int32) (_ : Unit) => True) (fun (_ : Unit) (t : State) => CJ dC dI kA Pr gn x ou t.heap) (fun q => ¬ Pr q)) 2 12 (fun q => ¬ Pr q) := by
  obtain ⟨G, nC, nS, bo, wa, wc, hT, hx, hou, hgC, hgS, hb3, hb51, hb14, hb17, hp9, hm2, hgr⟩ := hI
  have hA9 := gA_pr hPr hp9
  refine Met.weak (l_sow (l := l) (hlt := hlt) (dC := dC) (dI := dI) (kA := kA) (adK := adK) (adV := adV) (G := G) (H0 := H0) (nC := nC) (nS := nS) (o0 := x) (p1 := p1) (p2 := p2) (ou := ou) (hT := hT) (hr_o0 := hx) (hr_ou := hou) (hgC := hgC) (hgS := hgS)) (fun a U h => ⟨h.1, h.2.1, h.2.2.1, EVC.narrow h.2.2.2.1 hA9, h.2.2.2.2.1⟩) (fun a st oc t _ h => ?_) hA9
  obtain ⟨⟨r, u, e1, hp, hB⟩, hF⟩ := h
  exact ⟨⟨r, (), e1, trivial, ⟨G, nC, nS, bo, wa, wc, hB.1, hx, hou, hgC, hgS, hb3, hb51, hb14, hb17, hp9, hm2, hgr⟩⟩, hF.sub hA9⟩
set_option maxHeartbeats 2000000 in
theorem k_square (l : Launch) (hlt : l.stackTraces = false) (dC : Nat → ClassId) (dI : Nat → Nat → Nat) (kA : Nat → ClassId) (adK adV : Nat → Nat) (Pr : Nat → Prop) (H0 : Heap) (x ou : Nat) (p1 : Int32) (p2 : Int32)  (hPr : ∀ a, Pr a → a < H0.size) {gn : Int32} (hI : CJ dC dI kA Pr gn x ou H0) : Met l yL_square w_l_square ({ frames := 8, cells := 2, slots := 12, locals := 143 }) (va_Pc [.ref x, .int p1, .int p2, .ref ou] (fun U => U.heap = H0 ∧ va_K (dC, dI) vwCl (tyl kA) U ∧ EVC adK adV (fun q => ¬ Pr q) U U.heap ∧ NC U ∧ AO U)) (va_Qi (fun (r : Int32) (_ : Unit) => True) (fun (_ : Unit) (t : State) => CJ dC dI kA Pr gn x ou t.heap) (fun q => ¬ Pr q)) 2 12 (fun q => ¬ Pr q) := by
  obtain ⟨G, nC, nS, bo, wa, wc, hT, hx, hou, hgC, hgS, hb3, hb51, hb14, hb17, hp9, hm2, hgr⟩ := hI
  have hA9 := gA_pr hPr hp9
  refine Met.weak (l_square (l := l) (hlt := hlt) (dC := dC) (dI := dI) (kA := kA) (adK := adK) (adV := adV) (G := G) (H0 := H0) (nC := nC) (nS := nS) (o0 := x) (p1 := p1) (p2 := p2) (ou := ou) (hT := hT) (hr_o0 := hx) (hr_ou := hou) (hgC := hgC) (hgS := hgS)) (fun a U h => ⟨h.1, h.2.1, h.2.2.1, EVC.narrow h.2.2.2.1 hA9, h.2.2.2.2.1⟩) (fun a st oc t _ h => ?_) hA9
  obtain ⟨⟨r, u, e1, hp, hB⟩, hF⟩ := h
  exact ⟨⟨r, (), e1, trivial, ⟨G, nC, nS, bo, wa, wc, hB.1, hx, hou, hgC, hgS, hb3, hb51, hb14, hb17, hp9, hm2, hgr⟩⟩, hF.sub hA9⟩
set_option maxHeartbeats 2000000 in
theorem k_storm (l : Launch) (hlt : l.stackTraces = false) (dC : Nat → ClassId) (dI : Nat → Nat → Nat) (kA : Nat → ClassId) (adK adV : Nat → Nat) (Pr : Nat → Prop) (H0 : Heap) (x ou : Nat) (p1 : Int32) (p2 : Int32) (p3 : Int32)  (hPr : ∀ a, Pr a → a < H0.size) {gn : Int32} (hI : CJ dC dI kA Pr gn x ou H0) : Met l yL_storm w_l_storm ({ frames := 8, cells := 1, slots := 6, locals := 143 }) (va_Pc [.ref x, .int p1, .int p2, .int p3, .ref ou] (fun U => U.heap = H0 ∧ va_K (dC, dI) vwCl (tyl kA) U ∧ EVC adK adV (fun q => ¬ Pr q) U U.heap ∧ NC U ∧ AO U)) (va_Qi (fun (r : Int32) (_ : Unit) => True) (fun (_ : Unit) (t : State) => CJ dC dI kA Pr gn x ou t.heap) (fun q => ¬ Pr q)) 1 6 (fun q => ¬ Pr q) := by
  obtain ⟨G, nC, nS, bo, wa, wc, hT, hx, hou, hgC, hgS, hb3, hb51, hb14, hb17, hp9, hm2, hgr⟩ := hI
  have hA9 := gA_pr hPr hp9
  refine Met.weak (l_storm (l := l) (hlt := hlt) (dC := dC) (dI := dI) (kA := kA) (adK := adK) (adV := adV) (G := G) (H0 := H0) (nC := nC) (nS := nS) (o0 := x) (p1 := p1) (p2 := p2) (p3 := p3) (ou := ou) (hT := hT) (hr_o0 := hx) (hr_ou := hou) (hgC := hgC) (hgS := hgS)) (fun a U h => ⟨h.1, h.2.1, h.2.2.1, EVC.narrow h.2.2.2.1 hA9, h.2.2.2.2.1⟩) (fun a st oc t _ h => ?_) hA9
  obtain ⟨⟨r, u, e1, hp, hB⟩, hF⟩ := h
  exact ⟨⟨r, (), e1, trivial, ⟨G, nC, nS, bo, wa, wc, hB.1, hx, hou, hgC, hgS, hb3, hb51, hb14, hb17, hp9, hm2, hgr⟩⟩, hF.sub hA9⟩
set_option maxHeartbeats 2000000 in
theorem k_tear (l : Launch) (hlt : l.stackTraces = false) (dC : Nat → ClassId) (dI : Nat → Nat → Nat) (kA : Nat → ClassId) (adK adV : Nat → Nat) (Pr : Nat → Prop) (H0 : Heap) (x ou : Nat) (p1 : Int32) (p2 : Int32) (p3 : Int32)  (hPr : ∀ a, Pr a → a < H0.size) {gn : Int32} (hI : CJ dC dI kA Pr gn x ou H0) : Met l yL_tear w_l_tear ({ frames := 8, cells := 2, slots := 12, locals := 145 }) (va_Pc [.ref x, .int p1, .int p2, .int p3, .ref ou] (fun U => U.heap = H0 ∧ va_K (dC, dI) vwCl (tyl kA) U ∧ EVC adK adV (fun q => ¬ Pr q) U U.heap ∧ NC U ∧ AO U)) (va_Qi (fun (r : Int32) (_ : Unit) => True) (fun (_ : Unit) (t : State) => CJ dC dI kA Pr gn x ou t.heap) (fun q => ¬ Pr q)) 2 12 (fun q => ¬ Pr q) := by
  obtain ⟨G, nC, nS, bo, wa, wc, hT, hx, hou, hgC, hgS, hb3, hb51, hb14, hb17, hp9, hm2, hgr⟩ := hI
  have hA9 := gA_pr hPr hp9
  refine Met.weak (l_tear (l := l) (hlt := hlt) (dC := dC) (dI := dI) (kA := kA) (adK := adK) (adV := adV) (G := G) (H0 := H0) (nC := nC) (nS := nS) (o0 := x) (p1 := p1) (p2 := p2) (p3 := p3) (ou := ou) (hT := hT) (hr_o0 := hx) (hr_ou := hou) (hgC := hgC) (hgS := hgS)) (fun a U h => ⟨h.1, h.2.1, h.2.2.1, EVC.narrow h.2.2.2.1 hA9, h.2.2.2.2.1⟩) (fun a st oc t _ h => ?_) hA9
  obtain ⟨⟨r, u, e1, hp, hB⟩, hF⟩ := h
  exact ⟨⟨r, (), e1, trivial, ⟨G, nC, nS, bo, wa, wc, hB.1, hx, hou, hgC, hgS, hb3, hb51, hb14, hb17, hp9, hm2, hgr⟩⟩, hF.sub hA9⟩
set_option maxHeartbeats 2000000 in
theorem k_tide (l : Launch) (hlt : l.stackTraces = false) (dC : Nat → ClassId) (dI : Nat → Nat → Nat) (kA : Nat → ClassId) (adK adV : Nat → Nat) (Pr : Nat → Prop) (H0 : Heap) (x ou : Nat) (p1 : Int32) (p2 : Int32)  (hPr : ∀ a, Pr a → a < H0.size) {gn : Int32} (hI : CJ dC dI kA Pr gn x ou H0) : Met l yL_tide w_l_tide ({ frames := 8, cells := 1, slots := 6, locals := 142 }) (va_Pc [.ref x, .int p1, .int p2] (fun U => U.heap = H0 ∧ va_K (dC, dI) vwCl (tyl kA) U ∧ EVC adK adV (fun q => ¬ Pr q) U U.heap ∧ NC U ∧ AO U)) (va_Qi (fun (r : Int32) (_ : Unit) => True) (fun (_ : Unit) (t : State) => CJ dC dI kA Pr gn x ou t.heap) (fun q => ¬ Pr q)) 1 6 (fun q => ¬ Pr q) := by
  obtain ⟨G, nC, nS, bo, wa, wc, hT, hx, hou, hgC, hgS, hb3, hb51, hb14, hb17, hp9, hm2, hgr⟩ := hI
  have hA9 := gA_pr hPr hp9
  refine Met.weak (l_tide (l := l) (hlt := hlt) (dC := dC) (dI := dI) (kA := kA) (adK := adK) (adV := adV) (G := G) (H0 := H0) (nC := nC) (nS := nS) (o0 := x) (p1 := p1) (p2 := p2) (hT := hT) (hr_o0 := hx) (hgC := hgC) (hgS := hgS)) (fun a U h => ⟨h.1, h.2.1, h.2.2.1, EVC.narrow h.2.2.2.1 hA9, h.2.2.2.2.1⟩) (fun a st oc t _ h => ?_) hA9
  obtain ⟨⟨r, u, e1, hp, hB⟩, hF⟩ := h
  exact ⟨⟨r, (), e1, trivial, ⟨G, nC, nS, bo, wa, wc, hB.1, hx, hou, hgC, hgS, hb3, hb51, hb14, hb17, hp9, hm2, hgr⟩⟩, hF.sub hA9⟩
set_option maxHeartbeats 2000000 in
theorem k_turn (l : Launch) (hlt : l.stackTraces = false) (dC : Nat → ClassId) (dI : Nat → Nat → Nat) (kA : Nat → ClassId) (adK adV : Nat → Nat) (Pr : Nat → Prop) (H0 : Heap) (x ou : Nat) (p1 : Int32) (p2 : Int32) (hq2 : 0 ≤ p2.toInt ∧ p2.toInt ≤ 1) (hPr : ∀ a, Pr a → a < H0.size) {gn : Int32} (hI : CJ dC dI kA Pr gn x ou H0) : Met l yL_turn w_l_turn ({ frames := 8, cells := 2, slots := 12, locals := 145 }) (va_Pc [.ref x, .int p1, .int p2, .ref ou] (fun U => U.heap = H0 ∧ va_K (dC, dI) vwCl (tyl kA) U ∧ EVC adK adV (fun q => ¬ Pr q) U U.heap ∧ NC U ∧ AO U)) (va_Qi (fun (r : Int32) (_ : Unit) => True) (fun (_ : Unit) (t : State) => CJ dC dI kA Pr gn x ou t.heap) (fun q => ¬ Pr q)) 2 12 (fun q => ¬ Pr q) := by
  obtain ⟨G, nC, nS, bo, wa, wc, hT, hx, hou, hgC, hgS, hb3, hb51, hb14, hb17, hp9, hm2, hgr⟩ := hI
  have hA9 := gA_pr hPr hp9
  refine Met.weak (l_turn (l := l) (hlt := hlt) (dC := dC) (dI := dI) (kA := kA) (adK := adK) (adV := adV) (G := G) (H0 := H0) (nC := nC) (nS := nS) (o0 := x) (p1 := p1) (p2 := p2) (ou := ou) (hT := hT) (hr_o0 := hx) (hq2 := hq2) (hr_ou := hou) (hgC := hgC) (hgS := hgS)) (fun a U h => ⟨h.1, h.2.1, h.2.2.1, EVC.narrow h.2.2.2.1 hA9, h.2.2.2.2.1⟩) (fun a st oc t _ h => ?_) hA9
  obtain ⟨⟨r, u, e1, hp, hB⟩, hF⟩ := h
  exact ⟨⟨r, (), e1, trivial, ⟨G, nC, nS, bo, wa, wc, hB.1, hx, hou, hgC, hgS, hb3, hb51, hb14, hb17, hp9, hm2, hgr⟩⟩, hF.sub hA9⟩
set_option maxHeartbeats 2000000 in
theorem k_vote (l : Launch) (hlt : l.stackTraces = false) (dC : Nat → ClassId) (dI : Nat → Nat → Nat) (kA : Nat → ClassId) (adK adV : Nat → Nat) (Pr : Nat → Prop) (H0 : Heap) (x ou : Nat) (p1 : Int32) (p2 : Int32) (hq2 : 0 ≤ p2.toInt ∧ p2.toInt ≤ 1) (hPr : ∀ a, Pr a → a < H0.size) {gn : Int32} (hI : CJ dC dI kA Pr gn x ou H0) : Met l yL_vote w_l_vote ({ frames := 8, cells := 2, slots := 12, locals := 182 }) (va_Pc [.ref x, .int p1, .int p2, .ref ou] (fun U => U.heap = H0 ∧ va_K (dC, dI) vwCl (tyl kA) U ∧ EVC adK adV (fun q => ¬ Pr q) U U.heap ∧ NC U ∧ AO U)) (va_Qi (fun (r : Int32) (_ : Unit) => True) (fun (_ : Unit) (t : State) => CJ dC dI kA Pr gn x ou t.heap) (fun q => ¬ Pr q)) 2 12 (fun q => ¬ Pr q) := by
  obtain ⟨G, nC, nS, bo, wa, wc, hT, hx, hou, hgC, hgS, hb3, hb51, hb14, hb17, hp9, hm2, hgr⟩ := hI
  have hA9 := gA_pr hPr hp9
  refine Met.weak (l_vote (l := l) (hlt := hlt) (dC := dC) (dI := dI) (kA := kA) (adK := adK) (adV := adV) (G := G) (H0 := H0) (nC := nC) (nS := nS) (o0 := x) (p1 := p1) (p2 := p2) (ou := ou) (hT := hT) (hr_o0 := hx) (hq2 := hq2) (hr_ou := hou) (hgC := hgC) (hgS := hgS)) (fun a U h => ⟨h.1, h.2.1, h.2.2.1, EVC.narrow h.2.2.2.1 hA9, h.2.2.2.2.1⟩) (fun a st oc t _ h => ?_) hA9
  obtain ⟨⟨r, u, e1, hp, hB⟩, hF⟩ := h
  exact ⟨⟨r, (), e1, trivial, ⟨G, nC, nS, bo, wa, wc, hB.1, hx, hou, hgC, hgS, hb3, hb51, hb14, hb17, hp9, hm2, hgr⟩⟩, hF.sub hA9⟩
set_option maxHeartbeats 2000000 in
theorem k_weather (l : Launch) (hlt : l.stackTraces = false) (dC : Nat → ClassId) (dI : Nat → Nat → Nat) (kA : Nat → ClassId) (adK adV : Nat → Nat) (Pr : Nat → Prop) (H0 : Heap) (x ou : Nat) (p1 : Int32) (p2 : Int32) (p3 : Int32) (hq1 : 0 ≤ p1.toInt ∧ p1.toInt ≤ 1) (hPr : ∀ a, Pr a → a < H0.size) {gn : Int32} (hI : CJ dC dI kA Pr gn x ou H0) : Met l yL_weather w_l_weather ({ frames := 8, cells := 1, slots := 6, locals := 144 }) (va_Pc [.ref x, .int p1, .int p2, .int p3, .ref ou] (fun U => U.heap = H0 ∧ va_K (dC, dI) vwCl (tyl kA) U ∧ EVC adK adV (fun q => ¬ Pr q) U U.heap ∧ NC U ∧ AO U)) (va_Qi (fun (r : Int32) (_ : Unit) => True) (fun (_ : Unit) (t : State) => CJ dC dI kA Pr gn x ou t.heap) (fun q => ¬ Pr q)) 1 6 (fun q => ¬ Pr q) := by
  obtain ⟨G, nC, nS, bo, wa, wc, hT, hx, hou, hgC, hgS, hb3, hb51, hb14, hb17, hp9, hm2, hgr⟩ := hI
  have hA9 := gA_pr hPr hp9
  refine Met.weak (l_weather (l := l) (hlt := hlt) (dC := dC) (dI := dI) (kA := kA) (adK := adK) (adV := adV) (G := G) (H0 := H0) (nC := nC) (nS := nS) (o0 := x) (p1 := p1) (p2 := p2) (p3 := p3) (ou := ou) (hT := hT) (hr_o0 := hx) (hq1 := hq1) (hr_ou := hou) (hgC := hgC) (hgS := hgS)) (fun a U h => ⟨h.1, h.2.1, h.2.2.1, EVC.narrow h.2.2.2.1 hA9, h.2.2.2.2.1⟩) (fun a st oc t _ h => ?_) hA9
  obtain ⟨⟨r, u, e1, hp, hB⟩, hF⟩ := h
  exact ⟨⟨r, (), e1, trivial, ⟨G, nC, nS, bo, wa, wc, hB.1, hx, hou, hgC, hgS, hb3, hb51, hb14, hb17, hp9, hm2, hgr⟩⟩, hF.sub hA9⟩
set_option maxHeartbeats 2000000 in
theorem k_who (l : Launch) (hlt : l.stackTraces = false) (dC : Nat → ClassId) (dI : Nat → Nat → Nat) (kA : Nat → ClassId) (adK adV : Nat → Nat) (Pr : Nat → Prop) (H0 : Heap) (x ou : Nat) (p1 : Int32) (p2 : Int32)  (hPr : ∀ a, Pr a → a < H0.size) {gn : Int32} (hI : CJ dC dI kA Pr gn x ou H0) : Met l yL_who w_l_who ({ frames := 8, cells := 2, slots := 12, locals := 144 }) (va_Pc [.ref x, .int p1, .int p2, .ref ou] (fun U => U.heap = H0 ∧ va_K (dC, dI) vwCl (tyl kA) U ∧ EVC adK adV (fun q => ¬ Pr q) U U.heap ∧ NC U ∧ AO U)) (va_Qi (fun (r : Int32) (_ : Unit) => True) (fun (_ : Unit) (t : State) => CJ dC dI kA Pr gn x ou t.heap) (fun q => ¬ Pr q)) 2 12 (fun q => ¬ Pr q) := by
  obtain ⟨G, nC, nS, bo, wa, wc, hT, hx, hou, hgC, hgS, hb3, hb51, hb14, hb17, hp9, hm2, hgr⟩ := hI
  have hA9 := gA_pr hPr hp9
  refine Met.weak (l_who (l := l) (hlt := hlt) (dC := dC) (dI := dI) (kA := kA) (adK := adK) (adV := adV) (G := G) (H0 := H0) (nC := nC) (nS := nS) (o0 := x) (p1 := p1) (p2 := p2) (ou := ou) (hT := hT) (hr_o0 := hx) (hr_ou := hou) (hgC := hgC) (hgS := hgS)) (fun a U h => ⟨h.1, h.2.1, h.2.2.1, EVC.narrow h.2.2.2.1 hA9, h.2.2.2.2.1⟩) (fun a st oc t _ h => ?_) hA9
  obtain ⟨⟨r, u, e1, hp, hB⟩, hF⟩ := h
  exact ⟨⟨r, (), e1, trivial, ⟨G, nC, nS, bo, wa, wc, hB.1, hx, hou, hgC, hgS, hb3, hb51, hb14, hb17, hp9, hm2, hgr⟩⟩, hF.sub hA9⟩
set_option maxHeartbeats 2000000 in
theorem k_why (l : Launch) (hlt : l.stackTraces = false) (dC : Nat → ClassId) (dI : Nat → Nat → Nat) (kA : Nat → ClassId) (adK adV : Nat → Nat) (Pr : Nat → Prop) (H0 : Heap) (x ou : Nat) (p1 : Int32) (p2 : Int32)  (hPr : ∀ a, Pr a → a < H0.size) {gn : Int32} (hI : CJ dC dI kA Pr gn x ou H0) : Met l yL_why w_l_why ({ frames := 8, cells := 2, slots := 12, locals := 153 }) (va_Pc [.ref x, .int p1, .int p2, .ref ou] (fun U => U.heap = H0 ∧ va_K (dC, dI) vwCl (tyl kA) U ∧ EVC adK adV (fun q => ¬ Pr q) U U.heap ∧ NC U ∧ AO U)) (va_Qi (fun (r : Int32) (_ : Unit) => True) (fun (_ : Unit) (t : State) => CJ dC dI kA Pr gn x ou t.heap) (fun q => ¬ Pr q)) 2 12 (fun q => ¬ Pr q) := by
  obtain ⟨G, nC, nS, bo, wa, wc, hT, hx, hou, hgC, hgS, hb3, hb51, hb14, hb17, hp9, hm2, hgr⟩ := hI
  have hA9 := gA_pr hPr hp9
  refine Met.weak (l_why (l := l) (hlt := hlt) (dC := dC) (dI := dI) (kA := kA) (adK := adK) (adV := adV) (G := G) (H0 := H0) (nC := nC) (nS := nS) (o0 := x) (p1 := p1) (p2 := p2) (ou := ou) (hT := hT) (hr_o0 := hx) (hr_ou := hou) (hgC := hgC) (hgS := hgS)) (fun a U h => ⟨h.1, h.2.1, h.2.2.1, EVC.narrow h.2.2.2.1 hA9, h.2.2.2.2.1⟩) (fun a st oc t _ h => ?_) hA9
  obtain ⟨⟨r, u, e1, hp, hB⟩, hF⟩ := h
  exact ⟨⟨r, (), e1, trivial, ⟨G, nC, nS, bo, wa, wc, hB.1, hx, hou, hgC, hgS, hb3, hb51, hb14, hb17, hp9, hm2, hgr⟩⟩, hF.sub hA9⟩
set_option maxHeartbeats 2000000 in
theorem k_work (l : Launch) (hlt : l.stackTraces = false) (dC : Nat → ClassId) (dI : Nat → Nat → Nat) (kA : Nat → ClassId) (adK adV : Nat → Nat) (Pr : Nat → Prop) (H0 : Heap) (x ou : Nat) (p1 : Int32) (p2 : Int32)  (hPr : ∀ a, Pr a → a < H0.size) {gn : Int32} (hI : CJ dC dI kA Pr gn x ou H0) : Met l yL_work w_l_work ({ frames := 8, cells := 2, slots := 12, locals := 144 }) (va_Pc [.ref x, .int p1, .int p2, .ref ou] (fun U => U.heap = H0 ∧ va_K (dC, dI) vwCl (tyl kA) U ∧ EVC adK adV (fun q => ¬ Pr q) U U.heap ∧ NC U ∧ AO U)) (va_Qi (fun (r : Int32) (_ : Unit) => True) (fun (_ : Unit) (t : State) => CJ dC dI kA Pr gn x ou t.heap) (fun q => ¬ Pr q)) 2 12 (fun q => ¬ Pr q) := by
  obtain ⟨G, nC, nS, bo, wa, wc, hT, hx, hou, hgC, hgS, hb3, hb51, hb14, hb17, hp9, hm2, hgr⟩ := hI
  have hA9 := gA_pr hPr hp9
  refine Met.weak (l_work (l := l) (hlt := hlt) (dC := dC) (dI := dI) (kA := kA) (adK := adK) (adV := adV) (G := G) (H0 := H0) (nC := nC) (nS := nS) (o0 := x) (p1 := p1) (p2 := p2) (ou := ou) (hT := hT) (hr_o0 := hx) (hr_ou := hou) (hgC := hgC) (hgS := hgS)) (fun a U h => ⟨h.1, h.2.1, h.2.2.1, EVC.narrow h.2.2.2.1 hA9, h.2.2.2.2.1⟩) (fun a st oc t _ h => ?_) hA9
  obtain ⟨⟨r, u, e1, hp, hB⟩, hF⟩ := h
  exact ⟨⟨r, (), e1, trivial, ⟨G, nC, nS, bo, wa, wc, hB.1, hx, hou, hgC, hgS, hb3, hb51, hb14, hb17, hp9, hm2, hgr⟩⟩, hF.sub hA9⟩
set_option maxHeartbeats 2000000 in
theorem k_worth (l : Launch) (hlt : l.stackTraces = false) (dC : Nat → ClassId) (dI : Nat → Nat → Nat) (kA : Nat → ClassId) (adK adV : Nat → Nat) (Pr : Nat → Prop) (H0 : Heap) (x ou : Nat) (p1 : Int32)  (hPr : ∀ a, Pr a → a < H0.size) {gn : Int32} (hI : CJ dC dI kA Pr gn x ou H0) : Met l yL_worth w_l_worth ({ frames := 8, cells := 1, slots := 6, locals := 142 }) (va_Pc [.ref x, .int p1, .ref ou] (fun U => U.heap = H0 ∧ va_K (dC, dI) vwCl (tyl kA) U ∧ EVC adK adV (fun q => ¬ Pr q) U U.heap ∧ NC U ∧ AO U)) (va_Qi (fun (r : Int32) (_ : Unit) => True) (fun (_ : Unit) (t : State) => CJ dC dI kA Pr gn x ou t.heap) (fun q => ¬ Pr q)) 1 6 (fun q => ¬ Pr q) := by
  obtain ⟨G, nC, nS, bo, wa, wc, hT, hx, hou, hgC, hgS, hb3, hb51, hb14, hb17, hp9, hm2, hgr⟩ := hI
  have hA9 := gA_pr hPr hp9
  refine Met.weak (l_worth (l := l) (hlt := hlt) (dC := dC) (dI := dI) (kA := kA) (adK := adK) (adV := adV) (G := G) (H0 := H0) (nC := nC) (nS := nS) (o0 := x) (p1 := p1) (ou := ou) (hT := hT) (hr_o0 := hx) (hr_ou := hou) (hgC := hgC) (hgS := hgS)) (fun a U h => ⟨h.1, h.2.1, h.2.2.1, EVC.narrow h.2.2.2.1 hA9, h.2.2.2.2.1⟩) (fun a st oc t _ h => ?_) hA9
  obtain ⟨⟨r, u, e1, hp, hB⟩, hF⟩ := h
  exact ⟨⟨r, (), e1, trivial, ⟨G, nC, nS, bo, wa, wc, hB.1, hx, hou, hgC, hgS, hb3, hb51, hb14, hb17, hp9, hm2, hgr⟩⟩, hF.sub hA9⟩
set_option maxHeartbeats 2000000 in
theorem k_yards (l : Launch) (hlt : l.stackTraces = false) (dC : Nat → ClassId) (dI : Nat → Nat → Nat) (kA : Nat → ClassId) (adK adV : Nat → Nat) (Pr : Nat → Prop) (H0 : Heap) (x ou : Nat) (p1 : Int32) (p2 : Int32) (hq2 : 0 ≤ p2.toInt ∧ p2.toInt ≤ 1) (hPr : ∀ a, Pr a → a < H0.size) {gn : Int32} (hI : CJ dC dI kA Pr gn x ou H0) : Met l yL_yards w_l_yards ({ frames := 8, cells := 1, slots := 6, locals := 144 }) (va_Pc [.ref x, .int p1, .int p2, .ref ou] (fun U => U.heap = H0 ∧ va_K (dC, dI) vwCl (tyl kA) U ∧ EVC adK adV (fun q => ¬ Pr q) U U.heap ∧ NC U ∧ AO U)) (va_Qi (fun (r : Int32) (_ : Unit) => True) (fun (_ : Unit) (t : State) => CJ dC dI kA Pr gn x ou t.heap) (fun q => ¬ Pr q)) 1 6 (fun q => ¬ Pr q) := by
  obtain ⟨G, nC, nS, bo, wa, wc, hT, hx, hou, hgC, hgS, hb3, hb51, hb14, hb17, hp9, hm2, hgr⟩ := hI
  have hA9 := gA_pr hPr hp9
  refine Met.weak (l_yards (l := l) (hlt := hlt) (dC := dC) (dI := dI) (kA := kA) (adK := adK) (adV := adV) (G := G) (H0 := H0) (nC := nC) (nS := nS) (o0 := x) (p1 := p1) (p2 := p2) (ou := ou) (hT := hT) (hr_o0 := hx) (hq2 := hq2) (hr_ou := hou) (hgC := hgC) (hgS := hgS)) (fun a U h => ⟨h.1, h.2.1, h.2.2.1, EVC.narrow h.2.2.2.1 hA9, h.2.2.2.2.1⟩) (fun a st oc t _ h => ?_) hA9
  obtain ⟨⟨r, u, e1, hp, hB⟩, hF⟩ := h
  exact ⟨⟨r, (), e1, trivial, ⟨G, nC, nS, bo, wa, wc, hB.1, hx, hou, hgC, hgS, hb3, hb51, hb14, hb17, hp9, hm2, hgr⟩⟩, hF.sub hA9⟩
set_option maxHeartbeats 2000000 in
theorem k_feed (l : Launch) (hlt : l.stackTraces = false) (dC : Nat → ClassId) (dI : Nat → Nat → Nat) (kA : Nat → ClassId) (adK adV : Nat → Nat) (Pr : Nat → Prop) (H0 : Heap) (x ou : Nat) (p0 : Int32) (p1 : Int32) (p2 : Int32) (p3 : Int32) (p4 : Int32)  (hPr : ∀ a, Pr a → a < H0.size) {gn : Int32} (hI : CJ dC dI kA Pr gn x ou H0) : Met l yX11_feed w_c_feed ({ frames := 1, cells := 0, slots := 0, locals := 22 }) (va_Pc [.ref x, .int p0, .int p1, .int p2, .int p3, .int p4] (fun U => U.heap = H0 ∧ va_K (dC, dI) vwCl (tyl kA) U ∧ EVC adK adV (fun q => ¬ Pr q) U U.heap ∧ NC U ∧ AO U)) (va_Qi (fun (r : Int32) (_ : Unit) => True) (fun (_ : Unit) (t : State) => CJ dC dI kA Pr gn x ou t.heap) (fun q => ¬ Pr q)) 0 0 (fun q => ¬ Pr q) := by
  obtain ⟨G, nC, nS, bo, wa, wc, hT, hx, hou, hgC, hgS, hb3, hb51, hb14, hb17, hp9, hm2, hgr⟩ := hI
  have hA9 := gA_pr hPr hp9
  refine Met.weak (c_feed (l := l) (dC := dC) (dI := dI) (kA := kA) (adK := adK) (adV := adV) (G := G) (H0 := H0) (nC := nC) (nS := nS) (o0 := x) (p0 := p0) (p1 := p1) (p2 := p2) (p3 := p3) (p4 := p4) (hT := hT) (hr_o0 := hx) (hgC := hgC) (hgS := hgS)) (fun a U h => ⟨h.1, h.2.1, h.2.2.1, EVC.narrow h.2.2.2.1 hA9⟩) (fun a st oc t _ h => ?_) hA9
  obtain ⟨⟨r, u, e1, hp, hB⟩, hF⟩ := h
  exact ⟨⟨r, (), e1, trivial, ⟨G, nC, nS, bo, wa, wc, hB.1, hx, hou, hgC, hgS, hb3, hb51, hb14, hb17, hp9, hm2, hgr⟩⟩, hF.sub hA9⟩
set_option maxHeartbeats 2000000 in
theorem k_end (l : Launch) (hlt : l.stackTraces = false) (dC : Nat → ClassId) (dI : Nat → Nat → Nat) (kA : Nat → ClassId) (adK adV : Nat → Nat) (Pr : Nat → Prop) (H0 : Heap) (x ou : Nat) (p0 : Int32)  (hPr : ∀ a, Pr a → a < H0.size) {gn : Int32} (hI : CJ dC dI kA Pr gn x ou H0) : Met l yX11_end w_c_end ({ frames := 0, cells := 0, slots := 0, locals := 0 }) (va_Pc [.ref x, .int p0] (fun U => U.heap = H0 ∧ va_K (dC, dI) vwCl (tyl kA) U ∧ EVC adK adV (fun q => ¬ Pr q) U U.heap ∧ NC U ∧ AO U)) (va_Qi (fun (r : Int32) (_ : Unit) => True) (fun (_ : Unit) (t : State) => CJ dC dI kA Pr gn x ou t.heap) (fun q => ¬ Pr q)) 0 0 (fun q => ¬ Pr q) := by
  obtain ⟨G, nC, nS, bo, wa, wc, hT, hx, hou, hgC, hgS, hb3, hb51, hb14, hb17, hp9, hm2, hgr⟩ := hI
  have hA9 := gA_pr hPr hp9
  refine Met.weak (c_end (l := l) (dC := dC) (dI := dI) (kA := kA) (adK := adK) (adV := adV) (G := G) (H0 := H0) (nC := nC) (nS := nS) (o0 := x) (p0 := p0) (hT := hT) (hr_o0 := hx) (hgC := hgC) (hgS := hgS)) (fun a U h => ⟨h.1, h.2.1, h.2.2.1, EVC.narrow h.2.2.2.1 hA9⟩) (fun a st oc t _ h => ?_) hA9
  obtain ⟨⟨r, u, e1, hp, hB⟩, hF⟩ := h
  exact ⟨⟨r, (), e1, trivial, ⟨G, nC, nS, bo, wa, wc, hB.1, hx, hou, hgC, hgS, hb3, hb51, hb14, hb17, hp9, hm2, hgr⟩⟩, hF.sub hA9⟩
set_option maxHeartbeats 2000000 in
theorem k_harvest (l : Launch) (hlt : l.stackTraces = false) (dC : Nat → ClassId) (dI : Nat → Nat → Nat) (kA : Nat → ClassId) (adK adV : Nat → Nat) (Pr : Nat → Prop) (H0 : Heap) (x ou : Nat)   (hPr : ∀ a, Pr a → a < H0.size) {gn : Int32} (hI : CJ dC dI kA Pr gn x ou H0) : Met l yX11_harvest w_c_harvest ({ frames := 7, cells := 0, slots := 0, locals := 184 }) (va_Pc [.ref x] (fun U => U.heap = H0 ∧ va_K (dC, dI) vwCl (tyl kA) U ∧ EVC adK adV (fun q => ¬ Pr q) U U.heap ∧ NC U ∧ AO U)) (va_Qi (fun (r : Int32) (_ : Unit) => True) (fun (_ : Unit) (t : State) => CJ dC dI kA Pr gn x ou t.heap) (fun q => ¬ Pr q)) 0 0 (fun q => ¬ Pr q) := by
  obtain ⟨G, nC, nS, bo, wa, wc, hT, hx, hou, hgC, hgS, hb3, hb51, hb14, hb17, hp9, hm2, hgr⟩ := hI
  have hA9 := gA_pr hPr hp9
  refine Met.weak (c_harvest (l := l) (dC := dC) (dI := dI) (kA := kA) (adK := adK) (adV := adV) (G := G) (H0 := H0) (nC := nC) (nS := nS) (o0 := x) (hT := hT) (hr_o0 := hx) (hgC := hgC) (hgS := hgS)) (fun a U h => ⟨h.1, h.2.1, h.2.2.1, EVC.narrow h.2.2.2.1 hA9⟩) (fun a st oc t _ h => ?_) hA9
  obtain ⟨⟨r, u, e1, hp, hB⟩, hF⟩ := h
  exact ⟨⟨r, (), e1, trivial, ⟨G, nC, nS, bo, wa, wc, hB.1, hx, hou, hgC, hgS, hb3, hb51, hb14, hb17, hp9, hm2, hgr⟩⟩, hF.sub hA9⟩
set_option maxHeartbeats 2000000 in
theorem k_fault (l : Launch) (hlt : l.stackTraces = false) (dC : Nat → ClassId) (dI : Nat → Nat → Nat) (kA : Nat → ClassId) (adK adV : Nat → Nat) (Pr : Nat → Prop) (H0 : Heap) (x ou : Nat)   (hPr : ∀ a, Pr a → a < H0.size) {gn : Int32} (hI : CJ dC dI kA Pr gn x ou H0) : Met l yX11_fault w_c_fault ({ frames := 0, cells := 0, slots := 0, locals := 0 }) (va_Pc [.ref x] (fun U => U.heap = H0 ∧ va_K (dC, dI) vwCl (tyl kA) U ∧ EVC adK adV (fun q => ¬ Pr q) U U.heap ∧ NC U ∧ AO U)) (va_Qi (fun (r : Int32) (_ : Unit) => True) (fun (_ : Unit) (t : State) => CJ dC dI kA Pr gn x ou t.heap) (fun q => ¬ Pr q)) 0 0 (fun q => ¬ Pr q) := by
  obtain ⟨G, nC, nS, bo, wa, wc, hT, hx, hou, hgC, hgS, hb3, hb51, hb14, hb17, hp9, hm2, hgr⟩ := hI
  have hA9 := gA_pr hPr hp9
  refine Met.weak (c_fault (l := l) (dC := dC) (dI := dI) (kA := kA) (adK := adK) (adV := adV) (G := G) (H0 := H0) (nC := nC) (nS := nS) (o0 := x) (hT := hT) (hr_o0 := hx) (hgC := hgC) (hgS := hgS)) (fun a U h => ⟨h.1, h.2.1, h.2.2.1, EVC.narrow h.2.2.2.1 hA9⟩) (fun a st oc t _ h => ?_) hA9
  obtain ⟨⟨r, u, e1, hp, hB⟩, hF⟩ := h
  exact ⟨⟨r, (), e1, trivial, ⟨G, nC, nS, bo, wa, wc, hB.1, hx, hou, hgC, hgS, hb3, hb51, hb14, hb17, hp9, hm2, hgr⟩⟩, hF.sub hA9⟩
set_option maxHeartbeats 2000000 in
theorem k_check (l : Launch) (hlt : l.stackTraces = false) (dC : Nat → ClassId) (dI : Nat → Nat → Nat) (kA : Nat → ClassId) (adK adV : Nat → Nat) (Pr : Nat → Prop) (H0 : Heap) (x ou : Nat)   (hPr : ∀ a, Pr a → a < H0.size) {gn : Int32} (hI : CJ dC dI kA Pr gn x ou H0) : Met l yX11_check w_c_check ({ frames := 2, cells := 0, slots := 0, locals := 44 }) (va_Pc [.ref x] (fun U => U.heap = H0 ∧ va_K (dC, dI) vwCl (tyl kA) U ∧ EVC adK adV (fun q => ¬ Pr q) U U.heap ∧ NC U ∧ AO U)) (va_Qi (fun (r : Int32) (_ : Unit) => True) (fun (_ : Unit) (t : State) => CJ dC dI kA Pr gn x ou t.heap) (fun q => ¬ Pr q)) 0 0 (fun q => ¬ Pr q) := by
  obtain ⟨G, nC, nS, bo, wa, wc, hT, hx, hou, hgC, hgS, hb3, hb51, hb14, hb17, hp9, hm2, hgr⟩ := hI
  have hA9 := gA_pr hPr hp9
  refine Met.weak (c_check (l := l) (dC := dC) (dI := dI) (kA := kA) (adK := adK) (adV := adV) (G := G) (H0 := H0) (nC := nC) (nS := nS) (o0 := x) (hT := hT) (hr_o0 := hx) (hgC := hgC) (hgS := hgS)) (fun a U h => ⟨h.1, h.2.1, h.2.2.1, EVC.narrow h.2.2.2.1 hA9⟩) (fun a st oc t _ h => ?_) hA9
  obtain ⟨⟨r, u, e1, hp, hB⟩, hF⟩ := h
  exact ⟨⟨r, (), e1, trivial, ⟨G, nC, nS, bo, wa, wc, hB.1, hx, hou, hgC, hgS, hb3, hb51, hb14, hb17, hp9, hm2, hgr⟩⟩, hF.sub hA9⟩
set_option maxHeartbeats 2000000 in
theorem k_jobs (l : Launch) (hlt : l.stackTraces = false) (dC : Nat → ClassId) (dI : Nat → Nat → Nat) (kA : Nat → ClassId) (adK adV : Nat → Nat) (Pr : Nat → Prop) (H0 : Heap) (x ou : Nat)   (hPr : ∀ a, Pr a → a < H0.size) {gn : Int32} (hI : CJ dC dI kA Pr gn x ou H0) : Met l yX11_jobs w_c_jobs ({ frames := 0, cells := 0, slots := 0, locals := 0 }) (va_Pc [.ref x] (fun U => U.heap = H0 ∧ va_K (dC, dI) vwCl (tyl kA) U ∧ EVC adK adV (fun q => ¬ Pr q) U U.heap ∧ NC U ∧ AO U)) (va_Qi (fun (r : Int32) (_ : Unit) => True) (fun (_ : Unit) (t : State) => CJ dC dI kA Pr gn x ou t.heap) (fun q => ¬ Pr q)) 0 0 (fun q => ¬ Pr q) := by
  obtain ⟨G, nC, nS, bo, wa, wc, hT, hx, hou, hgC, hgS, hb3, hb51, hb14, hb17, hp9, hm2, hgr⟩ := hI
  have hA9 := gA_pr hPr hp9
  refine Met.weak (c_jobs (l := l) (dC := dC) (dI := dI) (kA := kA) (adK := adK) (adV := adV) (G := G) (H0 := H0) (nC := nC) (nS := nS) (o0 := x) (hT := hT) (hr_o0 := hx) (hgC := hgC) (hgS := hgS)) (fun a U h => ⟨h.1, h.2.1, h.2.2.1, EVC.narrow h.2.2.2.1 hA9⟩) (fun a st oc t _ h => ?_) hA9
  obtain ⟨⟨r, u, e1, hp, hB⟩, hF⟩ := h
  exact ⟨⟨r, (), e1, trivial, ⟨G, nC, nS, bo, wa, wc, hB.1, hx, hou, hgC, hgS, hb3, hb51, hb14, hb17, hp9, hm2, hgr⟩⟩, hF.sub hA9⟩
set_option maxHeartbeats 2000000 in
theorem k_keep (l : Launch) (hlt : l.stackTraces = false) (dC : Nat → ClassId) (dI : Nat → Nat → Nat) (kA : Nat → ClassId) (adK adV : Nat → Nat) (Pr : Nat → Prop) (H0 : Heap) (x ou : Nat)   (hPr : ∀ a, Pr a → a < H0.size) {gn : Int32} (hI : CJ dC dI kA Pr gn x ou H0) : Met l yX11_keep w_c_keep ({ frames := 5, cells := 115, slots := 2151, locals := 124 }) (va_Pc [.ref x] (fun U => U.heap = H0 ∧ va_K (dC, dI) vwCl (tyl kA) U ∧ EVC adK adV (fun q => ¬ Pr q) U U.heap ∧ NC U ∧ AO U)) (va_Qi (fun (r : Int32) (_ : Unit) => True) (fun (_ : Unit) (t : State) => CJ dC dI kA Pr gn x ou t.heap) (fun q => ¬ Pr q)) 115 2151 (fun q => ¬ Pr q) := by
  obtain ⟨G, nC, nS, bo, wa, wc, hT, hx, hou, hgC, hgS, hb3, hb51, hb14, hb17, hp9, hm2, hgr⟩ := hI
  have hA9 := gA_pr hPr hp9
  refine Met.weak (c_keep (l := l) (dC := dC) (dI := dI) (kA := kA) (adK := adK) (adV := adV) (G := G) (H0 := H0) (nC := nC) (nS := nS) (o0 := x) (hT := hT) (hr_o0 := hx) (hgC := hgC) (hgS := hgS)) (fun a U h => ⟨h.1, h.2.1, h.2.2.1, EVC.narrow h.2.2.2.1 hA9, h.2.2.2.2.2⟩) (fun a st oc t _ h => ?_) hA9
  obtain ⟨⟨r, u, e1, hp, hB⟩, hF⟩ := h
  obtain ⟨G1, n1, n2⟩ := u
  obtain ⟨hT1, hF9, hZ, h1, h2⟩ := hB
  exact ⟨⟨r, (), e1, trivial, ⟨G1, n1, n2, bo, wa, wc, hT1, hZ.1 _ _ hx, hZ.1 _ _ hou, h1, h2.1, hZ.uniq hb3 (by decide), hZ.uniq hb51 (by decide), hZ.uniq hb14 (by decide), hZ.uniq hb17 (by decide), hZ.pr hPr hp9, h2.2.trans hm2, hgr⟩⟩, hF.sub hA9⟩
set_option maxHeartbeats 2000000 in
theorem k_back (l : Launch) (hlt : l.stackTraces = false) (dC : Nat → ClassId) (dI : Nat → Nat → Nat) (kA : Nat → ClassId) (adK adV : Nat → Nat) (Pr : Nat → Prop) (H0 : Heap) (x ou : Nat)   (hPr : ∀ a, Pr a → a < H0.size) {gn : Int32} (hI : CJ dC dI kA Pr gn x ou H0) : Met l yX11_back w_c_back ({ frames := 5, cells := 0, slots := 0, locals := 124 }) (va_Pc [.ref x] (fun U => U.heap = H0 ∧ va_K (dC, dI) vwCl (tyl kA) U ∧ EVC adK adV (fun q => ¬ Pr q) U U.heap ∧ NC U ∧ AO U)) (va_Qi (fun (r : Int32) (_ : Unit) => True) (fun (_ : Unit) (t : State) => CJ dC dI kA Pr gn x ou t.heap) (fun q => ¬ Pr q)) 0 0 (fun q => ¬ Pr q) := by
  obtain ⟨G, nC, nS, bo, wa, wc, hT, hx, hou, hgC, hgS, hb3, hb51, hb14, hb17, hp9, hm2, hgr⟩ := hI
  have hA9 := gA_pr hPr hp9
  refine Met.weak (c_back (l := l) (dC := dC) (dI := dI) (kA := kA) (adK := adK) (adV := adV) (G := G) (H0 := H0) (nC := nC) (nS := nS) (o0 := x) (hT := hT) (hr_o0 := hx) (hgC := hgC) (hgS := hgS)) (fun a U h => ⟨h.1, h.2.1, h.2.2.1, EVC.narrow h.2.2.2.1 hA9⟩) (fun a st oc t _ h => ?_) hA9
  obtain ⟨⟨r, u, e1, hp, hB⟩, hF⟩ := h
  exact ⟨⟨r, (), e1, trivial, ⟨G, nC, nS, bo, wa, wc, hB.1, hx, hou, hgC, hgS, hb3, hb51, hb14, hb17, hp9, hm2, hgr⟩⟩, hF.sub hA9⟩
set_option maxHeartbeats 2000000 in
theorem k_count (l : Launch) (hlt : l.stackTraces = false) (dC : Nat → ClassId) (dI : Nat → Nat → Nat) (kA : Nat → ClassId) (adK adV : Nat → Nat) (Pr : Nat → Prop) (H0 : Heap) (x ou : Nat) (p0 : Int32)  (hPr : ∀ a, Pr a → a < H0.size) {gn : Int32} (hI : CJ dC dI kA Pr gn x ou H0) : Met l yX11_count w_c_count ({ frames := 2, cells := 0, slots := 0, locals := 43 }) (va_Pc [.ref x, .int p0] (fun U => U.heap = H0 ∧ va_K (dC, dI) vwCl (tyl kA) U ∧ EVC adK adV (fun q => ¬ Pr q) U U.heap ∧ NC U ∧ AO U)) (va_Qi (fun (r : Int32) (_ : Unit) => True) (fun (_ : Unit) (t : State) => CJ dC dI kA Pr gn x ou t.heap) (fun q => ¬ Pr q)) 0 0 (fun q => ¬ Pr q) := by
  obtain ⟨G, nC, nS, bo, wa, wc, hT, hx, hou, hgC, hgS, hb3, hb51, hb14, hb17, hp9, hm2, hgr⟩ := hI
  have hA9 := gA_pr hPr hp9
  refine Met.weak (c_count (l := l) (dC := dC) (dI := dI) (kA := kA) (adK := adK) (adV := adV) (G := G) (H0 := H0) (nC := nC) (nS := nS) (o0 := x) (p0 := p0) (hT := hT) (hr_o0 := hx) (hgC := hgC) (hgS := hgS)) (fun a U h => ⟨h.1, h.2.1, h.2.2.1, EVC.narrow h.2.2.2.1 hA9⟩) (fun a st oc t _ h => ?_) hA9
  obtain ⟨⟨r, u, e1, hp, hB⟩, hF⟩ := h
  exact ⟨⟨r, (), e1, trivial, ⟨G, nC, nS, bo, wa, wc, hB.1, hx, hou, hgC, hgS, hb3, hb51, hb14, hb17, hp9, hm2, hgr⟩⟩, hF.sub hA9⟩
set_option maxHeartbeats 2000000 in
theorem k_arrears (l : Launch) (hlt : l.stackTraces = false) (dC : Nat → ClassId) (dI : Nat → Nat → Nat) (kA : Nat → ClassId) (adK adV : Nat → Nat) (Pr : Nat → Prop) (H0 : Heap) (x ou : Nat) (p0 : Int32)  (hPr : ∀ a, Pr a → a < H0.size) {gn : Int32} (hI : CJ dC dI kA Pr gn x ou H0) : Met l yX11_arrears w_c_arrears ({ frames := 2, cells := 0, slots := 0, locals := 46 }) (va_Pc [.ref x, .int p0] (fun U => U.heap = H0 ∧ va_K (dC, dI) vwCl (tyl kA) U ∧ EVC adK adV (fun q => ¬ Pr q) U U.heap ∧ NC U ∧ AO U)) (va_Qi (fun (r : Int32) (_ : Unit) => True) (fun (_ : Unit) (t : State) => CJ dC dI kA Pr gn x ou t.heap) (fun q => ¬ Pr q)) 0 0 (fun q => ¬ Pr q) := by
  obtain ⟨G, nC, nS, bo, wa, wc, hT, hx, hou, hgC, hgS, hb3, hb51, hb14, hb17, hp9, hm2, hgr⟩ := hI
  have hA9 := gA_pr hPr hp9
  refine Met.weak (c_arrears (l := l) (dC := dC) (dI := dI) (kA := kA) (adK := adK) (adV := adV) (G := G) (H0 := H0) (nC := nC) (nS := nS) (o0 := x) (p0 := p0) (hT := hT) (hr_o0 := hx) (hgC := hgC) (hgS := hgS)) (fun a U h => ⟨h.1, h.2.1, h.2.2.1, EVC.narrow h.2.2.2.1 hA9⟩) (fun a st oc t _ h => ?_) hA9
  obtain ⟨⟨r, u, e1, hp, hB⟩, hF⟩ := h
  exact ⟨⟨r, (), e1, trivial, ⟨G, nC, nS, bo, wa, wc, hB.1, hx, hou, hgC, hgS, hb3, hb51, hb14, hb17, hp9, hm2, hgr⟩⟩, hF.sub hA9⟩
set_option maxHeartbeats 2000000 in
theorem k_settler (l : Launch) (hlt : l.stackTraces = false) (dC : Nat → ClassId) (dI : Nat → Nat → Nat) (kA : Nat → ClassId) (adK adV : Nat → Nat) (Pr : Nat → Prop) (H0 : Heap) (x ou : Nat) (p1 : Int32) (p2 : Int32) (p3 : Int32) (p4 : Int32) (p5 : Int32) (p6 : Int32) (p7 : Int32) (hq5 : 0 ≤ p5.toInt ∧ p5.toInt ≤ 1) (hq6 : 0 ≤ p6.toInt ∧ p6.toInt ≤ 1) {gn : Int32} (hPr : ∀ a, Pr a → a < H0.size) (hI : CJ dC dI kA Pr gn x ou H0) : Met l yL_settler w_l_settlerO ({ frames := 8, cells := 1, slots := 12, locals := 147 }) (va_Pc [.ref x, .int p1, .int p2, .int p3, .int p4, .int p5, .int p6, .int p7, .ref ou] (fun U => U.heap = H0 ∧ va_K (dC, dI) vwCl (tyl kA) U ∧ EVC adK adV (fun q => ¬ Pr q) U U.heap ∧ NC U ∧ AO U)) (va_Qi (fun (r : Int32) (u : Int32 × Int32 × Int32) => (u.1.toInt = 0 ∧ r.toInt = 0 ∧ (0 ≤ p1.toInt ∧ p1.toInt ≤ 99 ∧ 0 ≤ p2.toInt ∧ p2.toInt ≤ 20 ∧ 0 ≤ p3.toInt ∧ p3.toInt ≤ 100000 ∧ 0 ≤ p4.toInt ∧ p4.toInt ≤ 100 ∧ 0 ≤ p7.toInt ∧ p7.toInt ≤ 999999) ∧ gn.toInt ≤ 59 ∧ u.2.2.toInt = gn.toInt ∧ u.2.1.toInt = gn.toInt + 1) ∨ (u.1.toInt = 1 ∧ r.toInt = 1 ∧ ¬ (0 ≤ p1.toInt ∧ p1.toInt ≤ 99 ∧ 0 ≤ p2.toInt ∧ p2.toInt ≤ 20 ∧ 0 ≤ p3.toInt ∧ p3.toInt ≤ 100000 ∧ 0 ≤ p4.toInt ∧ p4.toInt ≤ 100 ∧ 0 ≤ p7.toInt ∧ p7.toInt ≤ 999999) ∧ u.2.1.toInt = gn.toInt) ∨ (u.1.toInt = 2 ∧ r.toInt = 2 ∧ (0 ≤ p1.toInt ∧ p1.toInt ≤ 99 ∧ 0 ≤ p2.toInt ∧ p2.toInt ≤ 20 ∧ 0 ≤ p3.toInt ∧ p3.toInt ≤ 100000 ∧ 0 ≤ p4.toInt ∧ p4.toInt ≤ 100 ∧ 0 ≤ p7.toInt ∧ p7.toInt ≤ 999999) ∧ gn.toInt = 60 ∧ u.2.1.toInt = gn.toInt)) (fun (u : Int32 × Int32 × Int32) (t : State) => CJ dC dI kA Pr u.2.1 x ou t.heap ∧ (u.1 = 0 → el t.heap ou 0 = some (.long u.2.2.toInt64))) (fun q => ¬ Pr q)) 1 12 (fun q => ¬ Pr q) := by
  obtain ⟨G, nC, nS, bo, wa, wc, hT, hx, hou, hgC, hgS, hb3, hb51, hb14, hb17, hp9, hm2, hgr⟩ := hI
  have hA9 := gA_pr hPr hp9
  refine Met.weak (l_settlerO (l := l) (hlt := hlt) (dC := dC) (dI := dI) (kA := kA) (adK := adK) (adV := adV) (G := G) (H0 := H0) (nC := nC) (nS := nS) (o0 := x) (p1 := p1) (p2 := p2) (p3 := p3) (p4 := p4) (p5 := p5) (p6 := p6) (p7 := p7) (ou := ou) (wa := wa) (bo := bo) (hT := hT) (hr_o0 := hx) (hq5 := hq5) (hq6 := hq6) (hr_ou := hou) (hu_o0 := hb3) (hu_a0 := hb51) (hgC := hgC) (hgS := hgS)) (fun a U h => ⟨h.1, h.2.1, h.2.2.1, EVC.narrow h.2.2.2.1 hA9, h.2.2.2.2.1, h.2.2.2.2.2⟩) (fun a st oc t _ h => ?_) hA9
  obtain ⟨⟨r, ⟨G1, n1, n2, c1, a1⟩, e1, hp, hB⟩, hF⟩ := h
  obtain ⟨hT1, hF9, hZ, h1, h2, ho⟩ := hB
  have hq9 : (c1.toInt = 0 ∧ r.toInt = 0 ∧ (0 ≤ p1.toInt ∧ p1.toInt ≤ 99 ∧ 0 ≤ p2.toInt ∧ p2.toInt ≤ 20 ∧ 0 ≤ p3.toInt ∧ p3.toInt ≤ 100000 ∧ 0 ≤ p4.toInt ∧ p4.toInt ≤ 100 ∧ 0 ≤ p7.toInt ∧ p7.toInt ≤ 999999) ∧ nS ≤ 59 ∧ a1.toInt = nS ∧ n2 = nS + 1) ∨ (c1.toInt = 1 ∧ r.toInt = 1 ∧ ¬ (0 ≤ p1.toInt ∧ p1.toInt ≤ 99 ∧ 0 ≤ p2.toInt ∧ p2.toInt ≤ 20 ∧ 0 ≤ p3.toInt ∧ p3.toInt ≤ 100000 ∧ 0 ≤ p4.toInt ∧ p4.toInt ≤ 100 ∧ 0 ≤ p7.toInt ∧ p7.toInt ≤ 999999) ∧ n2 = nS) ∨ (c1.toInt = 2 ∧ r.toInt = 2 ∧ (0 ≤ p1.toInt ∧ p1.toInt ≤ 99 ∧ 0 ≤ p2.toInt ∧ p2.toInt ≤ 20 ∧ 0 ≤ p3.toInt ∧ p3.toInt ≤ 100000 ∧ 0 ≤ p4.toInt ∧ p4.toInt ≤ 100 ∧ 0 ≤ p7.toInt ∧ p7.toInt ≤ 999999) ∧ nS = 60 ∧ n2 = nS) := hp.2
  obtain ⟨j1, hj1⟩ : ∃ j1 : Int32, j1.toInt = n2 := ⟨nI n2.toNat, (nI_toInt (by omega)).trans (by omega)⟩
  have hq8 : (c1.toInt = 0 ∧ r.toInt = 0 ∧ (0 ≤ p1.toInt ∧ p1.toInt ≤ 99 ∧ 0 ≤ p2.toInt ∧ p2.toInt ≤ 20 ∧ 0 ≤ p3.toInt ∧ p3.toInt ≤ 100000 ∧ 0 ≤ p4.toInt ∧ p4.toInt ≤ 100 ∧ 0 ≤ p7.toInt ∧ p7.toInt ≤ 999999) ∧ gn.toInt ≤ 59 ∧ a1.toInt = gn.toInt ∧ j1.toInt = gn.toInt + 1) ∨ (c1.toInt = 1 ∧ r.toInt = 1 ∧ ¬ (0 ≤ p1.toInt ∧ p1.toInt ≤ 99 ∧ 0 ≤ p2.toInt ∧ p2.toInt ≤ 20 ∧ 0 ≤ p3.toInt ∧ p3.toInt ≤ 100000 ∧ 0 ≤ p4.toInt ∧ p4.toInt ≤ 100 ∧ 0 ≤ p7.toInt ∧ p7.toInt ≤ 999999) ∧ j1.toInt = gn.toInt) ∨ (c1.toInt = 2 ∧ r.toInt = 2 ∧ (0 ≤ p1.toInt ∧ p1.toInt ≤ 99 ∧ 0 ≤ p2.toInt ∧ p2.toInt ≤ 20 ∧ 0 ≤ p3.toInt ∧ p3.toInt ≤ 100000 ∧ 0 ≤ p4.toInt ∧ p4.toInt ≤ 100 ∧ 0 ≤ p7.toInt ∧ p7.toInt ≤ 999999) ∧ gn.toInt = 60 ∧ j1.toInt = gn.toInt) := by
    rcases hq9 with ⟨q1, q2, q3, q4, q5, q6⟩ | ⟨q1, q2, q3, q4⟩ | ⟨q1, q2, q3, q4, q5⟩
    · exact Or.inl ⟨q1, q2, q3, by omega, by omega, by omega⟩
    · exact Or.inr (Or.inl ⟨q1, q2, q3, by omega⟩)
    · exact Or.inr (Or.inr ⟨q1, q2, q3, by omega, by omega⟩)
  exact ⟨⟨r, (c1, j1, a1), e1, hq8, ⟨G1, n1, n2, bo, wa, wc, hT1, hZ.1 _ _ hx, hZ.1 _ _ hou, h1, h2, hZ.uniq hb3 (by decide), hZ.uniq hb51 (by decide), hZ.uniq hb14 (by decide), hZ.uniq hb17 (by decide), hZ.pr hPr hp9, hj1.symm, (show 0 ≤ j1.toInt ∧ j1.toInt ≤ 60 from by omega)⟩, ho⟩, hF.sub hA9⟩
