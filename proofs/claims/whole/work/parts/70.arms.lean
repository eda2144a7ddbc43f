/-! the law: one call on both sides -/
def xEA (s : State) : Prop := vx_Zq Bundle.tN "UNASSIGNED_STACK" Bundle.steD (fun q => s.heap.size ≤ q) s s.heap ∧ vx_Zq Bundle.tN "SUPPRESSED_SENTINEL" Bundle.listD (fun q => s.heap.size ≤ q) s s.heap ∧ (∀ q ∈ nSR, ∃ sa : Nat, vk_R nR_X q.1 q.2 sa s) ∧ ∀ w ∈ nNG, va_Nw w s
theorem xEA_at {s : State} {H : Heap} {locs : List Loc} (h : xEA s) (hS : va_S (fun q => s.heap.size ≤ q) s.heap H locs) : xE s H := ⟨(h.1.kept hS.2.1).narrow (fun _ q => q.elim), (h.2.1.kept hS.2.1).narrow (fun _ q => q.elim), h.2.2.1, h.2.2.2⟩
theorem mw_pair {D : va_G} {cl : List vw_C} {A : Nat → Prop} {w1 w2 u : Nat → Option va_E} {H H1 : Heap} (h2 : mw D cl A w2 H) (hd : ∀ q, w2 q ≠ none → w1 q = none) (hu : mw D cl (mA w1 H.size) u H1) (hk : ∀ q : Nat, q < H.size → ¬ mA w1 H.size q → H1[q]? = H[q]?) (hF : ∀ q, mA w1 H.size q → A q) : mw D cl A u H1 ∧ mw D cl A w2 H1 ∧ ∀ q, w2 q ≠ none → u q = none := by
  have hn : ∀ q, w2 q ≠ none → ¬ mA w1 H.size q := fun q hq z => z.elim (fun z => z (hd q hq)) (fun z => by have := mw_lt' h2 hq; omega)
  refine ⟨mw_weaken hu hF, mw_frame h2 hk hn, fun q hq => ?_⟩
  cases he : u q with
  | none => rfl
  | some e => exact absurd (hu q e he).2 (hn q hq)
theorem dj_sym {w1 w2 : Nat → Option va_E} (hd : ∀ q, w2 q ≠ none → w1 q = none) : ∀ q, w1 q ≠ none → w2 q = none := fun q h => by
  cases he : w2 q with
  | none => rfl
  | some e => exact absurd (hd q (by rw [he]; exact fun z => nomatch z)) h
section CSW
variable {R : Room} {s : State} {args : Array Value} {own : String} {index : Nat} {y : MethodName} {bytes : ByteArray} {maxL mc ms : Nat} {ret : Option FieldType} {rm : Room} {hh : List (Nat × Nat × Nat × Nat)}
theorem cSW (n : Nat) (hta : ∀ w ∈ AL, w.before args s = true) (hc : Cond.codeWith y bytes maxL ret hh ∈ AL) (hini : Cond.initialized y.cls ∈ AL) (hl : Cond.methodLink own index y ∈ AL) (hs : Cond.static y ∈ AL) (hrc : rm.cells = mc) (hrs : rm.slots = ms)
    (hd : y.cls ≠ "java/lang/invoke/MethodHandle" ∧ y.cls ≠ "java/lang/invoke/VarHandle" ∧ (parseMethodDescriptor y.desc).map (fun d => d.parameters.length) = some n) (hR : rm.frames + 1 ≤ R.frames ∧ 8 + (maxL + 11) + rm.locals ≤ R.locals) :
    vx_CSW R s args own index y bytes maxL ret hh (ww y bytes maxL ret hh) rm mc ms n := by
  refine ⟨⟨hrc, hrs, hR.1, hR.2, pay_in hta (gW hc), List.mem_cons_self⟩, hta _ hc, hta _ hini, ⟨hd.1, hd.2.1⟩, fun sig h => ?_, hta _ hl, hta _ hs⟩
  have h2 := hd.2.2
  rw [h] at h2
  exact (Option.some.inj h2).symm
end CSW
theorem sc_in {i k L : Nat} (h : i + k < L) (hL : L < 2 ^ 31) : vp_in (nI i + nI k) L := by rw [nI_add]; exact vp_in_nI h hL
theorem cmp_self (x : Int64) : lg_cmp x x = 0 := by simp [lg_cmp]
theorem rl_hrn {v : Nat → nV} {od ro : Nat → Nat} {bs : Nat → Int32} {se wr : Int32} {n ka rn sn : Nat} {z : Int32} {f : Nat → Nat → Int32} (h : rl v od ro bs se wr n ka rn sn z f) : ∀ i, i < rn → f 10 i = nI (f 10 i).toNatClampNeg ∧ (f 10 i).toNatClampNeg < 100 := fun i hi => by
  obtain ⟨r1, r2⟩ := h.2.2.2.2.2.1 i hi
  have hn := h.1.1
  rw [r2, nI_clamp (by omega)]
  exact ⟨rfl, by omega⟩
theorem rl_hrg {v : Nat → nV} {od ro : Nat → Nat} {bs : Nat → Int32} {se wr : Int32} {n ka rn sn : Nat} {z : Int32} {f : Nat → Nat → Int32} (h : rl v od ro bs se wr n ka rn sn z f) (kn : Int32) : ∀ i, i < rn → (f 3 (f 10 i).toNatClampNeg).toInt.natAbs < 100000 ∧ (f 0 (f 10 i).toNatClampNeg).toInt.natAbs < 100000 ∧ (f 1 (f 10 i).toNatClampNeg).toInt.natAbs < 100000 ∧ (f 2 (f 10 i).toNatClampNeg).toInt.natAbs < 100000 ∧ (valM f kn (f 10 i).toNatClampNeg ka).toInt.natAbs < 100000 := fun i hi => by
  obtain ⟨r1, r2⟩ := h.2.2.2.2.2.1 i hi
  obtain ⟨g0, g1, g2, g3, g4, g5⟩ := (h.2.1 (ro i) r1).2.2
  have hv := rl_val h r1 kn
  have hse := h.1.2.2.2.2.2.1
  have hn := h.1.1
  rw [r2, nI_clamp (by omega)]
  omega
/-- the law's things: the class, the reference, what was answered last -/
def LI (G : va_G) (cN cB cI cJ : ClassId) (x mm o : Nat) (A : Nat → Prop) (H : Heap) : Prop :=
  ∃ (w wM : Nat → Option va_E) (α ad : Nat → Nat) (v : Nat → nV) (od ro : Nat → Nat) (bs : Nat → Int32) (se wr kn z th : Int32) (n ka rn sn : Nat) (f : Nat → Nat → Int32) (g : Nat → Int64),
    α 0 = x ∧ (∀ i j, i < 8 → j < 8 → α i = α j → i = j) ∧ (∀ i j, i < 12 → j < 12 → ad i = ad j → i = j) ∧ cPic w α cN cB v od ro bs se wr (nI ka) n rn sn kn z ∧ mPic wM mm cI ad f th se wr (nI n) (nI ka) z (nI rn) kn (nI sn) ∧ rl v od ro bs se wr n ka rn sn z f ∧ w o = none ∧ mw G ncl A (va_up w o (some (aJ cJ 1 g))) H ∧ mw G ncl A wM H ∧ ∀ q, wM q ≠ none → va_up w o (some (aJ cJ 1 g)) q = none
set_option maxHeartbeats 4000000 in
set_option maxRecDepth 100000 in
theorem arm_writer (l : Launch) (hlt : l.stackTraces = false) {p : Program} {e : Env} {s : State} {m : MethodId} {below : List Frame} {meth : Method} {c : Code} {b L : Nat} {xs : Nat → Int32} (hx : p.tables.exec = Jvm.exec) (hb : c.code = c_W_law) (hml : c.maxLocals = 7) (hown : s.vm.findClass nR_W = some m.cls) (hta : ∀ w ∈ AL, w.before #[Value.ref b] s = true) (hX : va_X b L xs s s.heap) (hbl : b < s.heap.size) (hL : L ≤ 3072) (G : va_G) (cN cB cI cJ : ClassId) (hK : va_K G ncl [(cN, .object nR_N), (cB, .byte), (cI, .int), (cJ, .long)] s) (hE0 : xEA s) (hN : xN s) {x mm o i : Nat} (hi : i + 6 ≤ L) {H : Heap} {locs : List Loc} {cells slots : Nat} {Q : State → Prop} (hcb : cells + 6 ≤ 601024) (hsb : slots + 40 ≤ 7293034) {ls : Array Slot} (hLI : LI G cN cB cI cJ x mm o (fun q => s.heap.size ≤ q) H) (hS : va_S (fun q => s.heap.size ≤ q) s.heap H locs) (hl : lv_has ls 7 [(0, .ref b), (1, .ref x), (2, .ref mm), (3, .ref o), (4, .int (nI i))]) (kk : ∀ (H : Heap) (locs : List Loc) (ls : Array Slot), LI G cN cB cI cJ x mm o (fun q => s.heap.size ≤ q) H → va_S (fun q => s.heap.size ≤ q) s.heap H locs → lv_has ls 7 [(0, .ref b), (1, .ref x), (2, .ref mm), (3, .ref o), (4, .int (nI i))] → W p l e room_1 s m #[Value.ref b] below meth c H locs (cells + 6) (slots + 40) Q (F0 m 1036 ls [])) : W p l e room_1 s m #[Value.ref b] below meth c H locs cells slots Q (F0 m 112 ls []) := by
  obtain ⟨w, wM, α, ad, v, od, ro, bs, se, wr, kn, z, th, n, ka, rn, sn, f, g, rfl, hα, had, hcp, hmp, hrl, ho, hM, hMM, hdj⟩ := hLI
  obtain ⟨x1, ex1⟩ : ∃ z9 : Int32, xs (nI i + 1).toNatClampNeg = z9 := ⟨_, rfl⟩
  obtain ⟨x2, ex2⟩ : ∃ z9 : Int32, xs (nI i + 2).toNatClampNeg = z9 := ⟨_, rfl⟩
  obtain ⟨x3, ex3⟩ : ∃ z9 : Int32, xs (nI i + 3).toNatClampNeg = z9 := ⟨_, rfl⟩
  obtain ⟨x4, ex4⟩ : ∃ z9 : Int32, xs (nI i + 4).toNatClampNeg = z9 := ⟨_, rfl⟩
  obtain ⟨x5, ex5⟩ : ∃ z9 : Int32, xs (nI i + 5).toNatClampNeg = z9 := ⟨_, rfl⟩
  refine lv_aload_n hx hb d_W_law_112 rfl (lv_at hl 1 rfl) ?_
  refine lv_aload_n hx hb d_W_law_113 rfl (lv_at hl 3 rfl) ?_
  have hF := mw_free hM hS (fun q h => h)
  refine va_calli (vx_runSW (As := [.ref (α 0), .ref o]) (rest := []) ⟨hx, hb, hml, hown, hta⟩ (k_W_writer l hlt G cN cB cI cJ [] w hα hcp (rl_cok hrl) ho g  _) (cSW 2 hta aw_106 aw_0 aw_104 aw_105 rfl rfl (by decide +kernel) ⟨Nat.le_of_ble_eq_true rfl, Nat.le_of_ble_eq_true rfl⟩) (pV_S hK hM (xEA_at hE0 hS) hN) rfl rfl hl.1 rfl (lv_room (Nat.le_of_ble_eq_true rfl)) d_W_law_114 ⟨(show _ ≤ 601024 by omega), (show _ ≤ 7293034 by omega)⟩) hS (fun q _ h => hF q h) hF (fun k0 u9 t H locs ht hvm hpost hB hz1 hk1 hS => ?_)
  obtain ⟨hM1, hK1⟩ := hB
  rw [ht] at hM1
  obtain ⟨hM, hMM, hdj⟩ := mw_pair hMM hdj hM1 hk1 hF
  clear hM1 hK1 hF hk1 hz1
  obtain ⟨ho, hk0, hne, hze⟩ := hpost
  subst hk0
  refine lv_istore (lv' := [(5, .int (nI (gT 8 (gC 1 1 1 (if wr < 10 then 1 else 0))))), (0, .ref b), (1, .ref (α 0)), (2, .ref mm), (3, .ref o), (4, .int (nI i))]) hx hb d_W_law_117 hl (by decide) rfl (fun ls hl => ?_)
  refine lv_aload_n hx hb d_W_law_119 rfl (lv_at hl 3 rfl) ?_
  have hF := mw_free hMM hS (fun q h => h)
  refine va_calli (va_runV (As := []) (rest := []) ⟨hx, hb, hml, hown, hta⟩ (k_M_writer l G _ _ cI _ wM had hmp    _) (cV 0 hta aw_615 aw_5 aw_612 aw_613 aw_614 rfl rfl (by decide +kernel) ⟨Nat.le_of_ble_eq_true rfl, Nat.le_of_ble_eq_true rfl⟩) (pZ_V hK hMM rfl hmp.1) rfl rfl hl.1 rfl (lv_room (Nat.le_of_ble_eq_true rfl)) d_W_law_120 ⟨(show _ ≤ 601024 by omega), (show _ ≤ 7293034 by omega)⟩) hS (fun q _ h => hF q h) hF (fun r0 u8 t H locs ht hvm hpost hB hz1 hk1 hS => ?_)
  obtain ⟨hM1, hK1⟩ := hB
  rw [ht] at hM1
  obtain ⟨hMM, hM, hdj⟩ := mw_pair hM (dj_sym hdj) hM1 hk1 hF
  clear hM1 hK1 hF hk1 hz1
  rw [← cd_writer] at hpost
  by_cases hC : gC 1 1 1 (if wr < 10 then 1 else 0) = 0
  · obtain ⟨r, hr1, hra, hcp2⟩ := hze hC
    obtain ⟨hr0, hmp2⟩ := hpost.2 hC
    have hrr : r = r0 := by rw [hra, hr0]
    have hcmp : lg_cmp (u9.2 (0 : Int32).toNatClampNeg) r0.toInt64 = 0 := by rw [show u9.2 (0 : Int32).toNatClampNeg = r.toInt64 from hr1, hrr]; exact cmp_self _
    refine lv_istore (lv' := [(6, .int r0), (5, .int (nI (gT 8 (gC 1 1 1 (if wr < 10 then 1 else 0))))), (0, .ref b), (1, .ref (α 0)), (2, .ref mm), (3, .ref o), (4, .int (nI i))]) hx hb d_W_law_123 hl (by decide) rfl (fun ls hl => ?_)
    refine lv_aload_n hx hb d_W_law_125 rfl (lv_at hl 4 rfl) ?_
    refine vp_callSi (W.runV (As := []) (rest := []) ⟨hx, hb, hml, hown, hta⟩ (k_M_thrown l G _ _ cI _ u8 had hmp2) (cV 0 hta aw_611 aw_5 aw_608 aw_609 aw_610 rfl rfl (by decide +kernel) ⟨Nat.le_of_ble_eq_true rfl, Nat.le_of_ble_eq_true rfl⟩) (pW_V hK hMM rfl hmp2.1) rfl rfl hl.1 rfl (lv_room (Nat.le_of_ble_eq_true rfl)) d_W_law_126 ⟨(show _ ≤ 601024 by omega), (show _ ≤ 7293034 by omega)⟩) (fun t_101 ht_101 => ?_)
    subst ht_101
    refine lv_iload hx hb d_W_law_129 (lv_at hl 1 rfl) ?_
    refine lv_icmp_eq (tgt := 136) hx hb d_W_law_131 (by decide) (fun c_102 => ?_) (fun c_102 => absurd (show nI (gT 8 (gC 1 1 1 (if wr < 10 then 1 else 0))) = 0 by rw [hC]; rfl).symm c_102)
    refine lv_iload hx hb d_W_law_136 (lv_at hl 1 rfl) ?_
    refine lv_if_ne (tgt := 153) hx hb d_W_law_138 (by decide) (fun c_103 => absurd (show nI (gT 8 (gC 1 1 1 (if wr < 10 then 1 else 0))) = 0 by rw [hC]; rfl) c_103) (fun c_103 => ?_)
    refine lv_aload_n hx hb d_W_law_141 rfl (lv_at hl 5 rfl) ?_
    refine lv_iconst (v := 0) hx hb d_W_law_142 (by decide) ?_
    refine m_lald hx hb hK hM 3 (va_up_self u9.1 o (some (aJ cJ 1 u9.2))) rfl (vp_in_nI (n := 0) (by decide) (by decide)) d_W_law_143 ?_
    refine lv_iload hx hb d_W_law_144 (lv_at hl 0 rfl) ?_
    refine lv_i2l hx hb d_W_law_146 rfl ?_
    refine W.lcmp hx hb d_W_law_147 ?_
    rw [hcmp]
    refine lv_if_eq (tgt := 153) hx hb d_W_law_148 (by decide) (fun c_104 => ?_) (fun c_104 => absurd (by decide) c_104)
    refine lv_goto (tgt := 1036) hx hb d_W_law_153 (by decide) ?_
    refine W.widen (k := cells + 6) (n := slots + 40) (by omega) (by omega) ?_
    exact kk H locs ls ⟨u9.1, u8, α, ad, v, od, ro, bs, se, (wr + 1), kn, z, 0, n, ka, rn, sn, f, u9.2, rfl, hα, had, hcp2, hmp2, nx_writer hrl hC, ho, hM, hMM, dj_sym hdj⟩ hS (lv_sub hl [2, 3, 4, 5, 6] rfl)
  · have hcp2 := hne hC
    have hmp2 := hpost.1 hC
    have hgt : ¬ nI (gT 8 (gC 1 1 1 (if wr < 10 then 1 else 0))) = 0 := by
      rcases gC_cases 1 1 1 (if wr < 10 then 1 else 0) with hcc | hcc | hcc | hcc | hcc
      · exact absurd hcc hC
      · exact absurd hcc.1 (by decide)
      · exact absurd hcc.1 (by decide)
      · exact absurd hcc.1 (by decide)
      · rw [hcc.2]; decide
    refine lv_istore (lv' := [(6, .int r0), (5, .int (nI (gT 8 (gC 1 1 1 (if wr < 10 then 1 else 0))))), (0, .ref b), (1, .ref (α 0)), (2, .ref mm), (3, .ref o), (4, .int (nI i))]) hx hb d_W_law_123 hl (by decide) rfl (fun ls hl => ?_)
    refine lv_aload_n hx hb d_W_law_125 rfl (lv_at hl 4 rfl) ?_
    refine vp_callSi (W.runV (As := []) (rest := []) ⟨hx, hb, hml, hown, hta⟩ (k_M_thrown l G _ _ cI _ u8 had hmp2) (cV 0 hta aw_611 aw_5 aw_608 aw_609 aw_610 rfl rfl (by decide +kernel) ⟨Nat.le_of_ble_eq_true rfl, Nat.le_of_ble_eq_true rfl⟩) (pW_V hK hMM rfl hmp2.1) rfl rfl hl.1 rfl (lv_room (Nat.le_of_ble_eq_true rfl)) d_W_law_126 ⟨(show _ ≤ 601024 by omega), (show _ ≤ 7293034 by omega)⟩) (fun t_101 ht_101 => ?_)
    subst ht_101
    refine lv_iload hx hb d_W_law_129 (lv_at hl 1 rfl) ?_
    refine lv_icmp_eq (tgt := 136) hx hb d_W_law_131 (by decide) (fun c_102 => ?_) (fun c_102 => absurd rfl c_102)
    refine lv_iload hx hb d_W_law_136 (lv_at hl 1 rfl) ?_
    refine lv_if_ne (tgt := 153) hx hb d_W_law_138 (by decide) (fun c_103 => ?_) (fun c_103 => absurd c_103 hgt)
    refine lv_goto (tgt := 1036) hx hb d_W_law_153 (by decide) ?_
    refine W.widen (k := cells + 6) (n := slots + 40) (by omega) (by omega) ?_
    exact kk H locs ls ⟨u9.1, u8, α, ad, v, od, ro, bs, se, wr, kn, z, (nI (gT 8 (gC 1 1 1 (if wr < 10 then 1 else 0)))), n, ka, rn, sn, f, u9.2, rfl, hα, had, hcp2, hmp2, hrl, ho, hM, hMM, dj_sym hdj⟩ hS (lv_sub hl [2, 3, 4, 5, 6] rfl)
set_option maxHeartbeats 4000000 in
set_option maxRecDepth 100000 in
theorem arm_note (l : Launch) (hlt : l.stackTraces = false) {p : Program} {e : Env} {s : State} {m : MethodId} {below : List Frame} {meth : Method} {c : Code} {b L : Nat} {xs : Nat → Int32} (hx : p.tables.exec = Jvm.exec) (hb : c.code = c_W_law) (hml : c.maxLocals = 7) (hown : s.vm.findClass nR_W = some m.cls) (hta : ∀ w ∈ AL, w.before #[Value.ref b] s = true) (hX : va_X b L xs s s.heap) (hbl : b < s.heap.size) (hL : L ≤ 3072) (G : va_G) (cN cB cI cJ : ClassId) (hK : va_K G ncl [(cN, .object nR_N), (cB, .byte), (cI, .int), (cJ, .long)] s) (hE0 : xEA s) (hN : xN s) {x mm o i : Nat} (hi : i + 6 ≤ L) {H : Heap} {locs : List Loc} {cells slots : Nat} {Q : State → Prop} (hcb : cells + 6 ≤ 601024) (hsb : slots + 40 ≤ 7293034) {ls : Array Slot} (hLI : LI G cN cB cI cJ x mm o (fun q => s.heap.size ≤ q) H) (hS : va_S (fun q => s.heap.size ≤ q) s.heap H locs) (hl : lv_has ls 7 [(0, .ref b), (1, .ref x), (2, .ref mm), (3, .ref o), (4, .int (nI i))]) (kk : ∀ (H : Heap) (locs : List Loc) (ls : Array Slot), LI G cN cB cI cJ x mm o (fun q => s.heap.size ≤ q) H → va_S (fun q => s.heap.size ≤ q) s.heap H locs → lv_has ls 7 [(0, .ref b), (1, .ref x), (2, .ref mm), (3, .ref o), (4, .int (nI i))] → W p l e room_1 s m #[Value.ref b] below meth c H locs (cells + 6) (slots + 40) Q (F0 m 1036 ls [])) : W p l e room_1 s m #[Value.ref b] below meth c H locs cells slots Q (F0 m 156 ls []) := by
  obtain ⟨w, wM, α, ad, v, od, ro, bs, se, wr, kn, z, th, n, ka, rn, sn, f, g, rfl, hα, had, hcp, hmp, hrl, ho, hM, hMM, hdj⟩ := hLI
  obtain ⟨x1, ex1⟩ : ∃ z9 : Int32, xs (nI i + 1).toNatClampNeg = z9 := ⟨_, rfl⟩
  obtain ⟨x2, ex2⟩ : ∃ z9 : Int32, xs (nI i + 2).toNatClampNeg = z9 := ⟨_, rfl⟩
  obtain ⟨x3, ex3⟩ : ∃ z9 : Int32, xs (nI i + 3).toNatClampNeg = z9 := ⟨_, rfl⟩
  obtain ⟨x4, ex4⟩ : ∃ z9 : Int32, xs (nI i + 4).toNatClampNeg = z9 := ⟨_, rfl⟩
  obtain ⟨x5, ex5⟩ : ∃ z9 : Int32, xs (nI i + 5).toNatClampNeg = z9 := ⟨_, rfl⟩
  refine lv_aload_n hx hb d_W_law_156 rfl (lv_at hl 1 rfl) ?_
  refine lv_aload_n hx hb d_W_law_157 rfl (lv_at hl 0 rfl) ?_
  refine lv_iload hx hb d_W_law_158 (lv_at hl 4 rfl) ?_
  refine lv_iconst (v := 1) hx hb d_W_law_160 (by decide) ?_
  refine lv_iadd hx hb d_W_law_161 ?_
  refine va_sld hx hb hX hbl (Nat.not_le.mpr hbl) hS (sc_in (k := 1) (by omega) (by omega)) d_W_law_162 ?_
  rw [ex1]
  refine lv_aload_n hx hb d_W_law_163 rfl (lv_at hl 0 rfl) ?_
  refine lv_iload hx hb d_W_law_164 (lv_at hl 4 rfl) ?_
  refine lv_iconst (v := 2) hx hb d_W_law_166 (by decide) ?_
  refine lv_iadd hx hb d_W_law_167 ?_
  refine va_sld hx hb hX hbl (Nat.not_le.mpr hbl) hS (sc_in (k := 2) (by omega) (by omega)) d_W_law_168 ?_
  rw [ex2]
  refine lv_aload_n hx hb d_W_law_169 rfl (lv_at hl 0 rfl) ?_
  refine lv_iload hx hb d_W_law_170 (lv_at hl 4 rfl) ?_
  refine lv_iconst (v := 3) hx hb d_W_law_172 (by decide) ?_
  refine lv_iadd hx hb d_W_law_173 ?_
  refine va_sld hx hb hX hbl (Nat.not_le.mpr hbl) hS (sc_in (k := 3) (by omega) (by omega)) d_W_law_174 ?_
  rw [ex3]
  refine lv_aload_n hx hb d_W_law_175 rfl (lv_at hl 0 rfl) ?_
  refine lv_iload hx hb d_W_law_176 (lv_at hl 4 rfl) ?_
  refine lv_iconst (v := 4) hx hb d_W_law_178 (by decide) ?_
  refine lv_iadd hx hb d_W_law_179 ?_
  refine va_sld hx hb hX hbl (Nat.not_le.mpr hbl) hS (sc_in (k := 4) (by omega) (by omega)) d_W_law_180 ?_
  rw [ex4]
  refine lv_aload_n hx hb d_W_law_181 rfl (lv_at hl 0 rfl) ?_
  refine lv_iload hx hb d_W_law_182 (lv_at hl 4 rfl) ?_
  refine lv_iconst (v := 5) hx hb d_W_law_184 (by decide) ?_
  refine lv_iadd hx hb d_W_law_185 ?_
  refine va_sld hx hb hX hbl (Nat.not_le.mpr hbl) hS (sc_in (k := 5) (by omega) (by omega)) d_W_law_186 ?_
  rw [ex5]
  refine lv_aload_n hx hb d_W_law_187 rfl (lv_at hl 3 rfl) ?_
  have hF := mw_free hM hS (fun q h => h)
  refine va_calli (vx_runSW (As := [.ref (α 0), .int x1, .int x2, .int x3, .int x4, .int x5, .ref o]) (rest := []) ⟨hx, hb, hml, hown, hta⟩ (k_W_note l hlt G cN cB cI cJ [] w hα hcp (rl_cok hrl) ho g x1 x2 x3 x4 x5 _) (cSW 7 hta aw_182 aw_0 aw_180 aw_181 rfl rfl (by decide +kernel) ⟨Nat.le_of_ble_eq_true rfl, Nat.le_of_ble_eq_true rfl⟩) (pV_S hK hM (xEA_at hE0 hS) hN) rfl rfl hl.1 rfl (lv_room (Nat.le_of_ble_eq_true rfl)) d_W_law_188 ⟨(show _ ≤ 601024 by omega), (show _ ≤ 7293034 by omega)⟩) hS (fun q _ h => hF q h) hF (fun k0 u9 t H locs ht hvm hpost hB hz1 hk1 hS => ?_)
  obtain ⟨hM1, hK1⟩ := hB
  rw [ht] at hM1
  obtain ⟨hM, hMM, hdj⟩ := mw_pair hMM hdj hM1 hk1 hF
  clear hM1 hK1 hF hk1 hz1
  obtain ⟨ho, hk0, hne, hze⟩ := hpost
  subst hk0
  refine lv_istore (lv' := [(5, .int (nI (gT 11 (gC (if (¬ x1 < 0 ∧ ¬ wr ≤ x1) ∧ (¬ x2 < 0 ∧ ¬ 6 ≤ x2) ∧ (¬ x3 < 0 ∧ ¬ 10 ≤ x3) then 1 else 0) (if (¬ x4 < 0 ∧ ¬ se < x4) ∧ (¬ x5 < (-9999) ∧ ¬ 9999 < x5) then 1 else 0) 1 (if nI n < 100 then 1 else 0))))), (0, .ref b), (1, .ref (α 0)), (2, .ref mm), (3, .ref o), (4, .int (nI i))]) hx hb d_W_law_191 hl (by decide) rfl (fun ls hl => ?_)
  refine lv_aload_n hx hb d_W_law_193 rfl (lv_at hl 3 rfl) ?_
  refine lv_aload_n hx hb d_W_law_194 rfl (lv_at hl 1 rfl) ?_
  refine lv_iload hx hb d_W_law_195 (lv_at hl 5 rfl) ?_
  refine lv_iconst (v := 1) hx hb d_W_law_197 (by decide) ?_
  refine lv_iadd hx hb d_W_law_198 ?_
  refine va_sld hx hb hX hbl (Nat.not_le.mpr hbl) hS (sc_in (k := 1) (by omega) (by omega)) d_W_law_199 ?_
  rw [ex1]
  refine lv_aload_n hx hb d_W_law_200 rfl (lv_at hl 1 rfl) ?_
  refine lv_iload hx hb d_W_law_201 (lv_at hl 5 rfl) ?_
  refine lv_iconst (v := 2) hx hb d_W_law_203 (by decide) ?_
  refine lv_iadd hx hb d_W_law_204 ?_
  refine va_sld hx hb hX hbl (Nat.not_le.mpr hbl) hS (sc_in (k := 2) (by omega) (by omega)) d_W_law_205 ?_
  rw [ex2]
  refine lv_aload_n hx hb d_W_law_206 rfl (lv_at hl 1 rfl) ?_
  refine lv_iload hx hb d_W_law_207 (lv_at hl 5 rfl) ?_
  refine lv_iconst (v := 3) hx hb d_W_law_209 (by decide) ?_
  refine lv_iadd hx hb d_W_law_210 ?_
  refine va_sld hx hb hX hbl (Nat.not_le.mpr hbl) hS (sc_in (k := 3) (by omega) (by omega)) d_W_law_211 ?_
  rw [ex3]
  refine lv_aload_n hx hb d_W_law_212 rfl (lv_at hl 1 rfl) ?_
  refine lv_iload hx hb d_W_law_213 (lv_at hl 5 rfl) ?_
  refine lv_iconst (v := 4) hx hb d_W_law_215 (by decide) ?_
  refine lv_iadd hx hb d_W_law_216 ?_
  refine va_sld hx hb hX hbl (Nat.not_le.mpr hbl) hS (sc_in (k := 4) (by omega) (by omega)) d_W_law_217 ?_
  rw [ex4]
  refine lv_aload_n hx hb d_W_law_218 rfl (lv_at hl 1 rfl) ?_
  refine lv_iload hx hb d_W_law_219 (lv_at hl 5 rfl) ?_
  refine lv_iconst (v := 5) hx hb d_W_law_221 (by decide) ?_
  refine lv_iadd hx hb d_W_law_222 ?_
  refine va_sld hx hb hX hbl (Nat.not_le.mpr hbl) hS (sc_in (k := 5) (by omega) (by omega)) d_W_law_223 ?_
  rw [ex5]
  have hF := mw_free hMM hS (fun q h => h)
  refine va_calli (va_runV (As := [.int x1, .int x2, .int x3, .int x4, .int x5]) (rest := []) ⟨hx, hb, hml, hown, hta⟩ (k_M_note l G _ _ cI _ wM had hmp hrl.1.1 rfl x1 x2 x3 x4 x5  _) (cV 5 hta aw_623 aw_5 aw_620 aw_621 aw_622 rfl rfl (by decide +kernel) ⟨Nat.le_of_ble_eq_true rfl, Nat.le_of_ble_eq_true rfl⟩) (pZ_V hK hMM rfl hmp.1) rfl rfl hl.1 rfl (lv_room (Nat.le_of_ble_eq_true rfl)) d_W_law_224 ⟨(show _ ≤ 601024 by omega), (show _ ≤ 7293034 by omega)⟩) hS (fun q _ h => hF q h) hF (fun r0 u8 t H locs ht hvm hpost hB hz1 hk1 hS => ?_)
  obtain ⟨hM1, hK1⟩ := hB
  rw [ht] at hM1
  obtain ⟨hMM, hM, hdj⟩ := mw_pair hM (dj_sym hdj) hM1 hk1 hF
  clear hM1 hK1 hF hk1 hz1
  rw [← cd_note hrl x1 x2 x3 x4 x5] at hpost
  by_cases hC : gC (if (¬ x1 < 0 ∧ ¬ wr ≤ x1) ∧ (¬ x2 < 0 ∧ ¬ 6 ≤ x2) ∧ (¬ x3 < 0 ∧ ¬ 10 ≤ x3) then 1 else 0) (if (¬ x4 < 0 ∧ ¬ se < x4) ∧ (¬ x5 < (-9999) ∧ ¬ 9999 < x5) then 1 else 0) 1 (if nI n < 100 then 1 else 0) = 0
  · obtain ⟨r, hr1, hra, q1, q2, hcp2⟩ := hze hC
    obtain ⟨hr0, hmp2⟩ := hpost.2 hC
    have hrr : r = r0 := by rw [hra, hr0, Int32.add_sub_cancel]
    have hcmp : lg_cmp (u9.2 (0 : Int32).toNatClampNeg) r0.toInt64 = 0 := by rw [show u9.2 (0 : Int32).toNatClampNeg = r.toInt64 from hr1, hrr]; exact cmp_self _
    refine lv_istore (lv' := [(6, .int r0), (5, .int (nI (gT 11 (gC (if (¬ x1 < 0 ∧ ¬ wr ≤ x1) ∧ (¬ x2 < 0 ∧ ¬ 6 ≤ x2) ∧ (¬ x3 < 0 ∧ ¬ 10 ≤ x3) then 1 else 0) (if (¬ x4 < 0 ∧ ¬ se < x4) ∧ (¬ x5 < (-9999) ∧ ¬ 9999 < x5) then 1 else 0) 1 (if nI n < 100 then 1 else 0))))), (0, .ref b), (1, .ref (α 0)), (2, .ref mm), (3, .ref o), (4, .int (nI i))]) hx hb d_W_law_227 hl (by decide) rfl (fun ls hl => ?_)
    refine lv_aload_n hx hb d_W_law_229 rfl (lv_at hl 4 rfl) ?_
    refine vp_callSi (W.runV (As := []) (rest := []) ⟨hx, hb, hml, hown, hta⟩ (k_M_thrown l G _ _ cI _ u8 had hmp2) (cV 0 hta aw_611 aw_5 aw_608 aw_609 aw_610 rfl rfl (by decide +kernel) ⟨Nat.le_of_ble_eq_true rfl, Nat.le_of_ble_eq_true rfl⟩) (pW_V hK hMM rfl hmp2.1) rfl rfl hl.1 rfl (lv_room (Nat.le_of_ble_eq_true rfl)) d_W_law_230 ⟨(show _ ≤ 601024 by omega), (show _ ≤ 7293034 by omega)⟩) (fun t_101 ht_101 => ?_)
    subst ht_101
    refine lv_iload hx hb d_W_law_233 (lv_at hl 1 rfl) ?_
    refine lv_icmp_eq (tgt := 240) hx hb d_W_law_235 (by decide) (fun c_102 => ?_) (fun c_102 => absurd (show nI (gT 11 (gC (if (¬ x1 < 0 ∧ ¬ wr ≤ x1) ∧ (¬ x2 < 0 ∧ ¬ 6 ≤ x2) ∧ (¬ x3 < 0 ∧ ¬ 10 ≤ x3) then 1 else 0) (if (¬ x4 < 0 ∧ ¬ se < x4) ∧ (¬ x5 < (-9999) ∧ ¬ 9999 < x5) then 1 else 0) 1 (if nI n < 100 then 1 else 0))) = 0 by rw [hC]; rfl).symm c_102)
    refine lv_iload hx hb d_W_law_240 (lv_at hl 1 rfl) ?_
    refine lv_if_ne (tgt := 257) hx hb d_W_law_242 (by decide) (fun c_103 => absurd (show nI (gT 11 (gC (if (¬ x1 < 0 ∧ ¬ wr ≤ x1) ∧ (¬ x2 < 0 ∧ ¬ 6 ≤ x2) ∧ (¬ x3 < 0 ∧ ¬ 10 ≤ x3) then 1 else 0) (if (¬ x4 < 0 ∧ ¬ se < x4) ∧ (¬ x5 < (-9999) ∧ ¬ 9999 < x5) then 1 else 0) 1 (if nI n < 100 then 1 else 0))) = 0 by rw [hC]; rfl) c_103) (fun c_103 => ?_)
    refine lv_aload_n hx hb d_W_law_245 rfl (lv_at hl 5 rfl) ?_
    refine lv_iconst (v := 0) hx hb d_W_law_246 (by decide) ?_
    refine m_lald hx hb hK hM 3 (va_up_self u9.1 o (some (aJ cJ 1 u9.2))) rfl (vp_in_nI (n := 0) (by decide) (by decide)) d_W_law_247 ?_
    refine lv_iload hx hb d_W_law_248 (lv_at hl 0 rfl) ?_
    refine lv_i2l hx hb d_W_law_250 rfl ?_
    refine W.lcmp hx hb d_W_law_251 ?_
    rw [hcmp]
    refine lv_if_eq (tgt := 257) hx hb d_W_law_252 (by decide) (fun c_104 => ?_) (fun c_104 => absurd (by decide) c_104)
    refine lv_goto (tgt := 1036) hx hb d_W_law_257 (by decide) ?_
    refine W.widen (k := cells + 6) (n := slots + 40) (by omega) (by omega) ?_
    exact kk H locs ls ⟨u9.1, u8, α, ad, (va_up v n (nNew q1 q2 n x1 x2 x3 x4 x5 se)), (odI od (insP (fun i => behB (nT (v (od i))) (nW (v (od i))) (nN (v (od i))) x4 x1 (nI n)) n) n), ro, bs, se, wr, kn, z, 0, (n + 1), ka, rn, sn, (fNote f n x1 x2 x3 x4 x5 se), u9.2, rfl, hα, had, hcp2, (by rw [nI_1] at hmp2; exact hmp2), nx_note hrl hC q1 q2, ho, hM, hMM, dj_sym hdj⟩ hS (lv_sub hl [2, 3, 4, 5, 6] rfl)
  · have hcp2 := hne hC
    have hmp2 := hpost.1 hC
    have hgt : ¬ nI (gT 11 (gC (if (¬ x1 < 0 ∧ ¬ wr ≤ x1) ∧ (¬ x2 < 0 ∧ ¬ 6 ≤ x2) ∧ (¬ x3 < 0 ∧ ¬ 10 ≤ x3) then 1 else 0) (if (¬ x4 < 0 ∧ ¬ se < x4) ∧ (¬ x5 < (-9999) ∧ ¬ 9999 < x5) then 1 else 0) 1 (if nI n < 100 then 1 else 0))) = 0 := by
      rcases gC_cases (if (¬ x1 < 0 ∧ ¬ wr ≤ x1) ∧ (¬ x2 < 0 ∧ ¬ 6 ≤ x2) ∧ (¬ x3 < 0 ∧ ¬ 10 ≤ x3) then 1 else 0) (if (¬ x4 < 0 ∧ ¬ se < x4) ∧ (¬ x5 < (-9999) ∧ ¬ 9999 < x5) then 1 else 0) 1 (if nI n < 100 then 1 else 0) with hcc | hcc | hcc | hcc | hcc
      · exact absurd hcc hC
      · rw [hcc.2]; decide
      · rw [hcc.2]; decide
      · exact absurd hcc.1 (by decide)
      · rw [hcc.2]; decide
    refine lv_istore (lv' := [(6, .int r0), (5, .int (nI (gT 11 (gC (if (¬ x1 < 0 ∧ ¬ wr ≤ x1) ∧ (¬ x2 < 0 ∧ ¬ 6 ≤ x2) ∧ (¬ x3 < 0 ∧ ¬ 10 ≤ x3) then 1 else 0) (if (¬ x4 < 0 ∧ ¬ se < x4) ∧ (¬ x5 < (-9999) ∧ ¬ 9999 < x5) then 1 else 0) 1 (if nI n < 100 then 1 else 0))))), (0, .ref b), (1, .ref (α 0)), (2, .ref mm), (3, .ref o), (4, .int (nI i))]) hx hb d_W_law_227 hl (by decide) rfl (fun ls hl => ?_)
    refine lv_aload_n hx hb d_W_law_229 rfl (lv_at hl 4 rfl) ?_
    refine vp_callSi (W.runV (As := []) (rest := []) ⟨hx, hb, hml, hown, hta⟩ (k_M_thrown l G _ _ cI _ u8 had hmp2) (cV 0 hta aw_611 aw_5 aw_608 aw_609 aw_610 rfl rfl (by decide +kernel) ⟨Nat.le_of_ble_eq_true rfl, Nat.le_of_ble_eq_true rfl⟩) (pW_V hK hMM rfl hmp2.1) rfl rfl hl.1 rfl (lv_room (Nat.le_of_ble_eq_true rfl)) d_W_law_230 ⟨(show _ ≤ 601024 by omega), (show _ ≤ 7293034 by omega)⟩) (fun t_101 ht_101 => ?_)
    subst ht_101
    refine lv_iload hx hb d_W_law_233 (lv_at hl 1 rfl) ?_
    refine lv_icmp_eq (tgt := 240) hx hb d_W_law_235 (by decide) (fun c_102 => ?_) (fun c_102 => absurd rfl c_102)
    refine lv_iload hx hb d_W_law_240 (lv_at hl 1 rfl) ?_
    refine lv_if_ne (tgt := 257) hx hb d_W_law_242 (by decide) (fun c_103 => ?_) (fun c_103 => absurd c_103 hgt)
    refine lv_goto (tgt := 1036) hx hb d_W_law_257 (by decide) ?_
    refine W.widen (k := cells + 6) (n := slots + 40) (by omega) (by omega) ?_
    exact kk H locs ls ⟨u9.1, u8, α, ad, v, od, ro, bs, se, wr, kn, z, (nI (gT 11 (gC (if (¬ x1 < 0 ∧ ¬ wr ≤ x1) ∧ (¬ x2 < 0 ∧ ¬ 6 ≤ x2) ∧ (¬ x3 < 0 ∧ ¬ 10 ≤ x3) then 1 else 0) (if (¬ x4 < 0 ∧ ¬ se < x4) ∧ (¬ x5 < (-9999) ∧ ¬ 9999 < x5) then 1 else 0) 1 (if nI n < 100 then 1 else 0)))), n, ka, rn, sn, f, u9.2, rfl, hα, had, hcp2, hmp2, hrl, ho, hM, hMM, dj_sym hdj⟩ hS (lv_sub hl [2, 3, 4, 5, 6] rfl)
set_option maxHeartbeats 4000000 in
set_option maxRecDepth 100000 in
theorem arm_correct (l : Launch) (hlt : l.stackTraces = false) {p : Program} {e : Env} {s : State} {m : MethodId} {below : List Frame} {meth : Method} {c : Code} {b L : Nat} {xs : Nat → Int32} (hx : p.tables.exec = Jvm.exec) (hb : c.code = c_W_law) (hml : c.maxLocals = 7) (hown : s.vm.findClass nR_W = some m.cls) (hta : ∀ w ∈ AL, w.before #[Value.ref b] s = true) (hX : va_X b L xs s s.heap) (hbl : b < s.heap.size) (hL : L ≤ 3072) (G : va_G) (cN cB cI cJ : ClassId) (hK : va_K G ncl [(cN, .object nR_N), (cB, .byte), (cI, .int), (cJ, .long)] s) (hE0 : xEA s) (hN : xN s) {x mm o i : Nat} (hi : i + 6 ≤ L) {H : Heap} {locs : List Loc} {cells slots : Nat} {Q : State → Prop} (hcb : cells + 6 ≤ 601024) (hsb : slots + 40 ≤ 7293034) {ls : Array Slot} (hLI : LI G cN cB cI cJ x mm o (fun q => s.heap.size ≤ q) H) (hS : va_S (fun q => s.heap.size ≤ q) s.heap H locs) (hl : lv_has ls 7 [(0, .ref b), (1, .ref x), (2, .ref mm), (3, .ref o), (4, .int (nI i))]) (kk : ∀ (H : Heap) (locs : List Loc) (ls : Array Slot), LI G cN cB cI cJ x mm o (fun q => s.heap.size ≤ q) H → va_S (fun q => s.heap.size ≤ q) s.heap H locs → lv_has ls 7 [(0, .ref b), (1, .ref x), (2, .ref mm), (3, .ref o), (4, .int (nI i))] → W p l e room_1 s m #[Value.ref b] below meth c H locs (cells + 6) (slots + 40) Q (F0 m 1036 ls [])) : W p l e room_1 s m #[Value.ref b] below meth c H locs cells slots Q (F0 m 260 ls []) := by
  obtain ⟨w, wM, α, ad, v, od, ro, bs, se, wr, kn, z, th, n, ka, rn, sn, f, g, rfl, hα, had, hcp, hmp, hrl, ho, hM, hMM, hdj⟩ := hLI
  obtain ⟨x1, ex1⟩ : ∃ z9 : Int32, xs (nI i + 1).toNatClampNeg = z9 := ⟨_, rfl⟩
  obtain ⟨x2, ex2⟩ : ∃ z9 : Int32, xs (nI i + 2).toNatClampNeg = z9 := ⟨_, rfl⟩
  obtain ⟨x3, ex3⟩ : ∃ z9 : Int32, xs (nI i + 3).toNatClampNeg = z9 := ⟨_, rfl⟩
  obtain ⟨x4, ex4⟩ : ∃ z9 : Int32, xs (nI i + 4).toNatClampNeg = z9 := ⟨_, rfl⟩
  obtain ⟨x5, ex5⟩ : ∃ z9 : Int32, xs (nI i + 5).toNatClampNeg = z9 := ⟨_, rfl⟩
  refine lv_aload_n hx hb d_W_law_260 rfl (lv_at hl 1 rfl) ?_
  refine lv_aload_n hx hb d_W_law_261 rfl (lv_at hl 0 rfl) ?_
  refine lv_iload hx hb d_W_law_262 (lv_at hl 4 rfl) ?_
  refine lv_iconst (v := 1) hx hb d_W_law_264 (by decide) ?_
  refine lv_iadd hx hb d_W_law_265 ?_
  refine va_sld hx hb hX hbl (Nat.not_le.mpr hbl) hS (sc_in (k := 1) (by omega) (by omega)) d_W_law_266 ?_
  rw [ex1]
  refine lv_aload_n hx hb d_W_law_267 rfl (lv_at hl 0 rfl) ?_
  refine lv_iload hx hb d_W_law_268 (lv_at hl 4 rfl) ?_
  refine lv_iconst (v := 2) hx hb d_W_law_270 (by decide) ?_
  refine lv_iadd hx hb d_W_law_271 ?_
  refine va_sld hx hb hX hbl (Nat.not_le.mpr hbl) hS (sc_in (k := 2) (by omega) (by omega)) d_W_law_272 ?_
  rw [ex2]
  refine lv_aload_n hx hb d_W_law_273 rfl (lv_at hl 3 rfl) ?_
  have hF := mw_free hM hS (fun q h => h)
  refine va_calli (vx_runSW (As := [.ref (α 0), .int x1, .int x2, .ref o]) (rest := []) ⟨hx, hb, hml, hown, hta⟩ (k_W_correct l hlt G cN cB cI cJ [] w hα hcp (rl_cok hrl) ho g x1 x2 _) (cSW 4 hta aw_334 aw_0 aw_332 aw_333 rfl rfl (by decide +kernel) ⟨Nat.le_of_ble_eq_true rfl, Nat.le_of_ble_eq_true rfl⟩) (pV_S hK hM (xEA_at hE0 hS) hN) rfl rfl hl.1 rfl (lv_room (Nat.le_of_ble_eq_true rfl)) d_W_law_274 ⟨(show _ ≤ 601024 by omega), (show _ ≤ 7293034 by omega)⟩) hS (fun q _ h => hF q h) hF (fun k0 u9 t H locs ht hvm hpost hB hz1 hk1 hS => ?_)
  obtain ⟨hM1, hK1⟩ := hB
  rw [ht] at hM1
  obtain ⟨hM, hMM, hdj⟩ := mw_pair hMM hdj hM1 hk1 hF
  clear hM1 hK1 hF hk1 hz1
  obtain ⟨ho, hk0, hne, hze⟩ := hpost
  subst hk0
  refine lv_istore (lv' := [(5, .int (nI (gT 15 (gC (if ¬ x1 < 0 ∧ x1 < nI n then 1 else 0) (if ¬ x2 < (-9999) ∧ ¬ 9999 < x2 then 1 else 0) (if (hd (nC (v x1.toNatClampNeg))).2.2.2 = 0 then 1 else 0) (if (nI ka) < 200 then 1 else 0))))), (0, .ref b), (1, .ref (α 0)), (2, .ref mm), (3, .ref o), (4, .int (nI i))]) hx hb d_W_law_277 hl (by decide) rfl (fun ls hl => ?_)
  refine lv_aload_n hx hb d_W_law_279 rfl (lv_at hl 3 rfl) ?_
  refine lv_aload_n hx hb d_W_law_280 rfl (lv_at hl 1 rfl) ?_
  refine lv_iload hx hb d_W_law_281 (lv_at hl 5 rfl) ?_
  refine lv_iconst (v := 1) hx hb d_W_law_283 (by decide) ?_
  refine lv_iadd hx hb d_W_law_284 ?_
  refine va_sld hx hb hX hbl (Nat.not_le.mpr hbl) hS (sc_in (k := 1) (by omega) (by omega)) d_W_law_285 ?_
  rw [ex1]
  refine lv_aload_n hx hb d_W_law_286 rfl (lv_at hl 1 rfl) ?_
  refine lv_iload hx hb d_W_law_287 (lv_at hl 5 rfl) ?_
  refine lv_iconst (v := 2) hx hb d_W_law_289 (by decide) ?_
  refine lv_iadd hx hb d_W_law_290 ?_
  refine va_sld hx hb hX hbl (Nat.not_le.mpr hbl) hS (sc_in (k := 2) (by omega) (by omega)) d_W_law_291 ?_
  rw [ex2]
  have hF := mw_free hMM hS (fun q h => h)
  refine va_calli (va_runV (As := [.int x1, .int x2]) (rest := []) ⟨hx, hb, hml, hown, hta⟩ (k_M_correct l G _ _ cI _ wM had hmp hrl.1.2.1 rfl hrl.1.1 rfl x1 x2  _) (cV 2 hta aw_634 aw_5 aw_631 aw_632 aw_633 rfl rfl (by decide +kernel) ⟨Nat.le_of_ble_eq_true rfl, Nat.le_of_ble_eq_true rfl⟩) (pZ_V hK hMM rfl hmp.1) rfl rfl hl.1 rfl (lv_room (Nat.le_of_ble_eq_true rfl)) d_W_law_292 ⟨(show _ ≤ 601024 by omega), (show _ ≤ 7293034 by omega)⟩) hS (fun q _ h => hF q h) hF (fun r0 u8 t H locs ht hvm hpost hB hz1 hk1 hS => ?_)
  obtain ⟨hM1, hK1⟩ := hB
  rw [ht] at hM1
  obtain ⟨hMM, hM, hdj⟩ := mw_pair hM (dj_sym hdj) hM1 hk1 hF
  clear hM1 hK1 hF hk1 hz1
  rw [← cd_correct hrl x1 x2] at hpost
  by_cases hC : gC (if ¬ x1 < 0 ∧ x1 < nI n then 1 else 0) (if ¬ x2 < (-9999) ∧ ¬ 9999 < x2 then 1 else 0) (if (hd (nC (v x1.toNatClampNeg))).2.2.2 = 0 then 1 else 0) (if (nI ka) < 200 then 1 else 0) = 0
  · obtain ⟨r, hr1, hra, q9, hcp2⟩ := hze hC
    obtain ⟨hr0, hmp2⟩ := hpost.2 hC
    have hrr : r = r0 := by rw [hra, hr0]; exact (nx_correct hrl hC (rl_ne hrl) q9).1
    have hcmp : lg_cmp (u9.2 (0 : Int32).toNatClampNeg) r0.toInt64 = 0 := by rw [show u9.2 (0 : Int32).toNatClampNeg = r.toInt64 from hr1, hrr]; exact cmp_self _
    refine lv_istore (lv' := [(6, .int r0), (5, .int (nI (gT 15 (gC (if ¬ x1 < 0 ∧ x1 < nI n then 1 else 0) (if ¬ x2 < (-9999) ∧ ¬ 9999 < x2 then 1 else 0) (if (hd (nC (v x1.toNatClampNeg))).2.2.2 = 0 then 1 else 0) (if (nI ka) < 200 then 1 else 0))))), (0, .ref b), (1, .ref (α 0)), (2, .ref mm), (3, .ref o), (4, .int (nI i))]) hx hb d_W_law_295 hl (by decide) rfl (fun ls hl => ?_)
    refine lv_aload_n hx hb d_W_law_297 rfl (lv_at hl 4 rfl) ?_
    refine vp_callSi (W.runV (As := []) (rest := []) ⟨hx, hb, hml, hown, hta⟩ (k_M_thrown l G _ _ cI _ u8 had hmp2) (cV 0 hta aw_611 aw_5 aw_608 aw_609 aw_610 rfl rfl (by decide +kernel) ⟨Nat.le_of_ble_eq_true rfl, Nat.le_of_ble_eq_true rfl⟩) (pW_V hK hMM rfl hmp2.1) rfl rfl hl.1 rfl (lv_room (Nat.le_of_ble_eq_true rfl)) d_W_law_298 ⟨(show _ ≤ 601024 by omega), (show _ ≤ 7293034 by omega)⟩) (fun t_101 ht_101 => ?_)
    subst ht_101
    refine lv_iload hx hb d_W_law_301 (lv_at hl 1 rfl) ?_
    refine lv_icmp_eq (tgt := 308) hx hb d_W_law_303 (by decide) (fun c_102 => ?_) (fun c_102 => absurd (show nI (gT 15 (gC (if ¬ x1 < 0 ∧ x1 < nI n then 1 else 0) (if ¬ x2 < (-9999) ∧ ¬ 9999 < x2 then 1 else 0) (if (hd (nC (v x1.toNatClampNeg))).2.2.2 = 0 then 1 else 0) (if (nI ka) < 200 then 1 else 0))) = 0 by rw [hC]; rfl).symm c_102)
    refine lv_iload hx hb d_W_law_308 (lv_at hl 1 rfl) ?_
    refine lv_if_ne (tgt := 325) hx hb d_W_law_310 (by decide) (fun c_103 => absurd (show nI (gT 15 (gC (if ¬ x1 < 0 ∧ x1 < nI n then 1 else 0) (if ¬ x2 < (-9999) ∧ ¬ 9999 < x2 then 1 else 0) (if (hd (nC (v x1.toNatClampNeg))).2.2.2 = 0 then 1 else 0) (if (nI ka) < 200 then 1 else 0))) = 0 by rw [hC]; rfl) c_103) (fun c_103 => ?_)
    refine lv_aload_n hx hb d_W_law_313 rfl (lv_at hl 5 rfl) ?_
    refine lv_iconst (v := 0) hx hb d_W_law_314 (by decide) ?_
    refine m_lald hx hb hK hM 3 (va_up_self u9.1 o (some (aJ cJ 1 u9.2))) rfl (vp_in_nI (n := 0) (by decide) (by decide)) d_W_law_315 ?_
    refine lv_iload hx hb d_W_law_316 (lv_at hl 0 rfl) ?_
    refine lv_i2l hx hb d_W_law_318 rfl ?_
    refine W.lcmp hx hb d_W_law_319 ?_
    rw [hcmp]
    refine lv_if_eq (tgt := 325) hx hb d_W_law_320 (by decide) (fun c_104 => ?_) (fun c_104 => absurd (by decide) c_104)
    refine lv_goto (tgt := 1036) hx hb d_W_law_325 (by decide) ?_
    refine W.widen (k := cells + 6) (n := slots + 40) (by omega) (by omega) ?_
    exact kk H locs ls ⟨u9.1, u8, α, ad, (va_up v x1.toNatClampNeg (nCor (v x1.toNatClampNeg) q9 se x2)), od, ro, bs, se, wr, kn, z, 0, n, (ka + 1), rn, sn, (fAct f ka x1 2 x2 se), u9.2, rfl, hα, had, (by rw [nI_1] at hcp2; exact hcp2), (by rw [nI_1] at hmp2; exact hmp2), (nx_correct hrl hC (rl_ne hrl) q9).2, ho, hM, hMM, dj_sym hdj⟩ hS (lv_sub hl [2, 3, 4, 5, 6] rfl)
  · have hcp2 := hne hC
    have hmp2 := hpost.1 hC
    have hgt : ¬ nI (gT 15 (gC (if ¬ x1 < 0 ∧ x1 < nI n then 1 else 0) (if ¬ x2 < (-9999) ∧ ¬ 9999 < x2 then 1 else 0) (if (hd (nC (v x1.toNatClampNeg))).2.2.2 = 0 then 1 else 0) (if (nI ka) < 200 then 1 else 0))) = 0 := by
      rcases gC_cases (if ¬ x1 < 0 ∧ x1 < nI n then 1 else 0) (if ¬ x2 < (-9999) ∧ ¬ 9999 < x2 then 1 else 0) (if (hd (nC (v x1.toNatClampNeg))).2.2.2 = 0 then 1 else 0) (if (nI ka) < 200 then 1 else 0) with hcc | hcc | hcc | hcc | hcc
      · exact absurd hcc hC
      · rw [hcc.2]; decide
      · rw [hcc.2]; decide
      · rw [hcc.2]; decide
      · rw [hcc.2]; decide
    refine lv_istore (lv' := [(6, .int r0), (5, .int (nI (gT 15 (gC (if ¬ x1 < 0 ∧ x1 < nI n then 1 else 0) (if ¬ x2 < (-9999) ∧ ¬ 9999 < x2 then 1 else 0) (if (hd (nC (v x1.toNatClampNeg))).2.2.2 = 0 then 1 else 0) (if (nI ka) < 200 then 1 else 0))))), (0, .ref b), (1, .ref (α 0)), (2, .ref mm), (3, .ref o), (4, .int (nI i))]) hx hb d_W_law_295 hl (by decide) rfl (fun ls hl => ?_)
    refine lv_aload_n hx hb d_W_law_297 rfl (lv_at hl 4 rfl) ?_
    refine vp_callSi (W.runV (As := []) (rest := []) ⟨hx, hb, hml, hown, hta⟩ (k_M_thrown l G _ _ cI _ u8 had hmp2) (cV 0 hta aw_611 aw_5 aw_608 aw_609 aw_610 rfl rfl (by decide +kernel) ⟨Nat.le_of_ble_eq_true rfl, Nat.le_of_ble_eq_true rfl⟩) (pW_V hK hMM rfl hmp2.1) rfl rfl hl.1 rfl (lv_room (Nat.le_of_ble_eq_true rfl)) d_W_law_298 ⟨(show _ ≤ 601024 by omega), (show _ ≤ 7293034 by omega)⟩) (fun t_101 ht_101 => ?_)
    subst ht_101
    refine lv_iload hx hb d_W_law_301 (lv_at hl 1 rfl) ?_
    refine lv_icmp_eq (tgt := 308) hx hb d_W_law_303 (by decide) (fun c_102 => ?_) (fun c_102 => absurd rfl c_102)
    refine lv_iload hx hb d_W_law_308 (lv_at hl 1 rfl) ?_
    refine lv_if_ne (tgt := 325) hx hb d_W_law_310 (by decide) (fun c_103 => ?_) (fun c_103 => absurd c_103 hgt)
    refine lv_goto (tgt := 1036) hx hb d_W_law_325 (by decide) ?_
    refine W.widen (k := cells + 6) (n := slots + 40) (by omega) (by omega) ?_
    exact kk H locs ls ⟨u9.1, u8, α, ad, v, od, ro, bs, se, wr, kn, z, (nI (gT 15 (gC (if ¬ x1 < 0 ∧ x1 < nI n then 1 else 0) (if ¬ x2 < (-9999) ∧ ¬ 9999 < x2 then 1 else 0) (if (hd (nC (v x1.toNatClampNeg))).2.2.2 = 0 then 1 else 0) (if (nI ka) < 200 then 1 else 0)))), n, ka, rn, sn, f, u9.2, rfl, hα, had, hcp2, hmp2, hrl, ho, hM, hMM, dj_sym hdj⟩ hS (lv_sub hl [2, 3, 4, 5, 6] rfl)
set_option maxHeartbeats 4000000 in
set_option maxRecDepth 100000 in
theorem arm_strike (l : Launch) (hlt : l.stackTraces = false) {p : Program} {e : Env} {s : State} {m : MethodId} {below : List Frame} {meth : Method} {c : Code} {b L : Nat} {xs : Nat → Int32} (hx : p.tables.exec = Jvm.exec) (hb : c.code = c_W_law) (hml : c.maxLocals = 7) (hown : s.vm.findClass nR_W = some m.cls) (hta : ∀ w ∈ AL, w.before #[Value.ref b] s = true) (hX : va_X b L xs s s.heap) (hbl : b < s.heap.size) (hL : L ≤ 3072) (G : va_G) (cN cB cI cJ : ClassId) (hK : va_K G ncl [(cN, .object nR_N), (cB, .byte), (cI, .int), (cJ, .long)] s) (hE0 : xEA s) (hN : xN s) {x mm o i : Nat} (hi : i + 6 ≤ L) {H : Heap} {locs : List Loc} {cells slots : Nat} {Q : State → Prop} (hcb : cells + 6 ≤ 601024) (hsb : slots + 40 ≤ 7293034) {ls : Array Slot} (hLI : LI G cN cB cI cJ x mm o (fun q => s.heap.size ≤ q) H) (hS : va_S (fun q => s.heap.size ≤ q) s.heap H locs) (hl : lv_has ls 7 [(0, .ref b), (1, .ref x), (2, .ref mm), (3, .ref o), (4, .int (nI i))]) (kk : ∀ (H : Heap) (locs : List Loc) (ls : Array Slot), LI G cN cB cI cJ x mm o (fun q => s.heap.size ≤ q) H → va_S (fun q => s.heap.size ≤ q) s.heap H locs → lv_has ls 7 [(0, .ref b), (1, .ref x), (2, .ref mm), (3, .ref o), (4, .int (nI i))] → W p l e room_1 s m #[Value.ref b] below meth c H locs (cells + 6) (slots + 40) Q (F0 m 1036 ls [])) : W p l e room_1 s m #[Value.ref b] below meth c H locs cells slots Q (F0 m 328 ls []) := by
  obtain ⟨w, wM, α, ad, v, od, ro, bs, se, wr, kn, z, th, n, ka, rn, sn, f, g, rfl, hα, had, hcp, hmp, hrl, ho, hM, hMM, hdj⟩ := hLI
  obtain ⟨x1, ex1⟩ : ∃ z9 : Int32, xs (nI i + 1).toNatClampNeg = z9 := ⟨_, rfl⟩
  obtain ⟨x2, ex2⟩ : ∃ z9 : Int32, xs (nI i + 2).toNatClampNeg = z9 := ⟨_, rfl⟩
  obtain ⟨x3, ex3⟩ : ∃ z9 : Int32, xs (nI i + 3).toNatClampNeg = z9 := ⟨_, rfl⟩
  obtain ⟨x4, ex4⟩ : ∃ z9 : Int32, xs (nI i + 4).toNatClampNeg = z9 := ⟨_, rfl⟩
  obtain ⟨x5, ex5⟩ : ∃ z9 : Int32, xs (nI i + 5).toNatClampNeg = z9 := ⟨_, rfl⟩
  refine lv_aload_n hx hb d_W_law_328 rfl (lv_at hl 1 rfl) ?_
  refine lv_aload_n hx hb d_W_law_329 rfl (lv_at hl 0 rfl) ?_
  refine lv_iload hx hb d_W_law_330 (lv_at hl 4 rfl) ?_
  refine lv_iconst (v := 1) hx hb d_W_law_332 (by decide) ?_
  refine lv_iadd hx hb d_W_law_333 ?_
  refine va_sld hx hb hX hbl (Nat.not_le.mpr hbl) hS (sc_in (k := 1) (by omega) (by omega)) d_W_law_334 ?_
  rw [ex1]
  refine lv_aload_n hx hb d_W_law_335 rfl (lv_at hl 0 rfl) ?_
  refine lv_iload hx hb d_W_law_336 (lv_at hl 4 rfl) ?_
  refine lv_iconst (v := 2) hx hb d_W_law_338 (by decide) ?_
  refine lv_iadd hx hb d_W_law_339 ?_
  refine va_sld hx hb hX hbl (Nat.not_le.mpr hbl) hS (sc_in (k := 2) (by omega) (by omega)) d_W_law_340 ?_
  rw [ex2]
  refine lv_if_eq (tgt := 348) hx hb d_W_law_341 (by decide) (fun c_1 => ?_) (fun c_1 => ?_)
  · refine lv_iconst (v := 0) hx hb d_W_law_348 (by decide) ?_
    have hF := mw_free hM hS (fun q h => h)
    refine va_calli (vx_runSW (As := [.ref (α 0), .int x1, .int 0]) (rest := []) ⟨hx, hb, hml, hown, hta⟩ (k_W_strike l hlt G cN cB cI cJ [] w hα hcp (rl_cok hrl) ho g x1 0 (Or.inl rfl) _) (cSW 3 hta aw_373 aw_0 aw_371 aw_372 rfl rfl (by decide +kernel) ⟨Nat.le_of_ble_eq_true rfl, Nat.le_of_ble_eq_true rfl⟩) (pV_S hK hM (xEA_at hE0 hS) hN) rfl rfl hl.1 rfl (lv_room (Nat.le_of_ble_eq_true rfl)) d_W_law_349 ⟨(show _ ≤ 601024 by omega), (show _ ≤ 7293034 by omega)⟩) hS (fun q _ h => hF q h) hF (fun k0 u9 t H locs ht hvm hpost hB hz1 hk1 hS => ?_)
    obtain ⟨hM1, hK1⟩ := hB
    rw [ht] at hM1
    obtain ⟨hM, hMM, hdj⟩ := mw_pair hMM hdj hM1 hk1 hF
    clear hM1 hK1 hF hk1 hz1
    obtain ⟨ho, hk0, hne, hze⟩ := hpost
    subst hk0
    refine lv_istore (lv' := [(5, .int (nI (gT 13 (gC (if ¬ x1 < 0 ∧ x1 < nI n then 1 else 0) 1 (if ¬ (hd (nC (v x1.toNatClampNeg))).2.2.2 = 0 then 1 else 0) (if (nI ka) < 200 then 1 else 0))))), (0, .ref b), (1, .ref (α 0)), (2, .ref mm), (3, .ref o), (4, .int (nI i))]) hx hb d_W_law_352 hl (by decide) rfl (fun ls hl => ?_)
    refine lv_aload_n hx hb d_W_law_354 rfl (lv_at hl 3 rfl) ?_
    refine lv_aload_n hx hb d_W_law_355 rfl (lv_at hl 1 rfl) ?_
    refine lv_iload hx hb d_W_law_356 (lv_at hl 5 rfl) ?_
    refine lv_iconst (v := 1) hx hb d_W_law_358 (by decide) ?_
    refine lv_iadd hx hb d_W_law_359 ?_
    refine va_sld hx hb hX hbl (Nat.not_le.mpr hbl) hS (sc_in (k := 1) (by omega) (by omega)) d_W_law_360 ?_
    rw [ex1]
    refine lv_aload_n hx hb d_W_law_361 rfl (lv_at hl 1 rfl) ?_
    refine lv_iload hx hb d_W_law_362 (lv_at hl 5 rfl) ?_
    refine lv_iconst (v := 2) hx hb d_W_law_364 (by decide) ?_
    refine lv_iadd hx hb d_W_law_365 ?_
    refine va_sld hx hb hX hbl (Nat.not_le.mpr hbl) hS (sc_in (k := 2) (by omega) (by omega)) d_W_law_366 ?_
    rw [ex2]
    refine lv_if_eq (tgt := 374) hx hb d_W_law_367 (by decide) (fun c_2 => ?_) (fun c_2 => absurd c_1 c_2)
    refine lv_iconst (v := 0) hx hb d_W_law_374 (by decide) ?_
    have hF := mw_free hMM hS (fun q h => h)
    refine va_callv (va_runV (As := [.int x1, .int 0]) (rest := []) ⟨hx, hb, hml, hown, hta⟩ (k_M_strike l G _ _ cI _ wM had hmp hrl.1.2.1 rfl hrl.1.1 rfl x1 0  _) (cV 2 hta aw_654 aw_5 aw_651 aw_652 aw_653 rfl rfl (by decide +kernel) ⟨Nat.le_of_ble_eq_true rfl, Nat.le_of_ble_eq_true rfl⟩) (pZ_V hK hMM rfl hmp.1) rfl rfl hl.1 rfl (lv_room (Nat.le_of_ble_eq_true rfl)) d_W_law_375 ⟨(show _ ≤ 601024 by omega), (show _ ≤ 7293034 by omega)⟩) hS (fun q _ h => hF q h) hF (fun u8 t H locs ht hvm hpost hB hz1 hk1 hS => ?_)
    obtain ⟨hM1, hK1⟩ := hB
    rw [ht] at hM1
    obtain ⟨hMM, hM, hdj⟩ := mw_pair hM (dj_sym hdj) hM1 hk1 hF
    clear hM1 hK1 hF hk1 hz1
    rw [← cd_strike hrl x1 0] at hpost
    by_cases hC : gC (if ¬ x1 < 0 ∧ x1 < nI n then 1 else 0) 1 (if ¬ (hd (nC (v x1.toNatClampNeg))).2.2.2 = 0 then 1 else 0) (if (nI ka) < 200 then 1 else 0) = 0
    · obtain ⟨q9, hcp2⟩ := hze hC
      have hmp2 := hpost.2 hC
      refine lv_aload_n hx hb d_W_law_378 rfl (lv_at hl 3 rfl) ?_
      refine vp_callSi (W.runV (As := []) (rest := []) ⟨hx, hb, hml, hown, hta⟩ (k_M_thrown l G _ _ cI _ u8 had hmp2) (cV 0 hta aw_611 aw_5 aw_608 aw_609 aw_610 rfl rfl (by decide +kernel) ⟨Nat.le_of_ble_eq_true rfl, Nat.le_of_ble_eq_true rfl⟩) (pW_V hK hMM rfl hmp2.1) rfl rfl hl.1 rfl (lv_room (Nat.le_of_ble_eq_true rfl)) d_W_law_379 ⟨(show _ ≤ 601024 by omega), (show _ ≤ 7293034 by omega)⟩) (fun t_103 ht_103 => ?_)
      subst ht_103
      refine lv_iload hx hb d_W_law_382 (lv_at hl 0 rfl) ?_
      refine lv_icmp_eq (tgt := 389) hx hb d_W_law_384 (by decide) (fun c_104 => ?_) (fun c_104 => absurd (show nI (gT 13 (gC (if ¬ x1 < 0 ∧ x1 < nI n then 1 else 0) 1 (if ¬ (hd (nC (v x1.toNatClampNeg))).2.2.2 = 0 then 1 else 0) (if (nI ka) < 200 then 1 else 0))) = 0 by rw [hC]; rfl).symm c_104)
      refine lv_goto (tgt := 1036) hx hb d_W_law_389 (by decide) ?_
      refine W.widen (k := cells + 6) (n := slots + 40) (by omega) (by omega) ?_
      exact kk H locs ls ⟨u9.1, u8, α, ad, (va_up v x1.toNatClampNeg (nStr (v x1.toNatClampNeg) q9 se 0)), od, ro, bs, se, wr, kn, z, 0, n, (ka + 1), rn, sn, (fAct f ka x1 (if (0 : Int32) = 0 then 1 else 0) 0 se), u9.2, rfl, hα, had, (by rw [nI_1] at hcp2; exact hcp2), (by rw [nI_1] at hmp2; exact hmp2), nx_strike hrl (Or.inl rfl) hC (rl_ne hrl) q9, ho, hM, hMM, dj_sym hdj⟩ hS (lv_sub hl [1, 2, 3, 4, 5] rfl)
    · have hcp2 := hne hC
      have hmp2 := hpost.1 hC
      have hgt : ¬ nI (gT 13 (gC (if ¬ x1 < 0 ∧ x1 < nI n then 1 else 0) 1 (if ¬ (hd (nC (v x1.toNatClampNeg))).2.2.2 = 0 then 1 else 0) (if (nI ka) < 200 then 1 else 0))) = 0 := by
        rcases gC_cases (if ¬ x1 < 0 ∧ x1 < nI n then 1 else 0) 1 (if ¬ (hd (nC (v x1.toNatClampNeg))).2.2.2 = 0 then 1 else 0) (if (nI ka) < 200 then 1 else 0) with hcc | hcc | hcc | hcc | hcc
        · exact absurd hcc hC
        · rw [hcc.2]; decide
        · exact absurd hcc.1 (by decide)
        · rw [hcc.2]; decide
        · rw [hcc.2]; decide
      refine lv_aload_n hx hb d_W_law_378 rfl (lv_at hl 3 rfl) ?_
      refine vp_callSi (W.runV (As := []) (rest := []) ⟨hx, hb, hml, hown, hta⟩ (k_M_thrown l G _ _ cI _ u8 had hmp2) (cV 0 hta aw_611 aw_5 aw_608 aw_609 aw_610 rfl rfl (by decide +kernel) ⟨Nat.le_of_ble_eq_true rfl, Nat.le_of_ble_eq_true rfl⟩) (pW_V hK hMM rfl hmp2.1) rfl rfl hl.1 rfl (lv_room (Nat.le_of_ble_eq_true rfl)) d_W_law_379 ⟨(show _ ≤ 601024 by omega), (show _ ≤ 7293034 by omega)⟩) (fun t_103 ht_103 => ?_)
      subst ht_103
      refine lv_iload hx hb d_W_law_382 (lv_at hl 0 rfl) ?_
      refine lv_icmp_eq (tgt := 389) hx hb d_W_law_384 (by decide) (fun c_104 => ?_) (fun c_104 => absurd rfl c_104)
      refine lv_goto (tgt := 1036) hx hb d_W_law_389 (by decide) ?_
      refine W.widen (k := cells + 6) (n := slots + 40) (by omega) (by omega) ?_
      exact kk H locs ls ⟨u9.1, u8, α, ad, v, od, ro, bs, se, wr, kn, z, (nI (gT 13 (gC (if ¬ x1 < 0 ∧ x1 < nI n then 1 else 0) 1 (if ¬ (hd (nC (v x1.toNatClampNeg))).2.2.2 = 0 then 1 else 0) (if (nI ka) < 200 then 1 else 0)))), n, ka, rn, sn, f, u9.2, rfl, hα, had, hcp2, hmp2, hrl, ho, hM, hMM, dj_sym hdj⟩ hS (lv_sub hl [1, 2, 3, 4, 5] rfl)
  · refine lv_iconst (v := 1) hx hb d_W_law_344 (by decide) ?_
    refine lv_goto (tgt := 349) hx hb d_W_law_345 (by decide) ?_
    have hF := mw_free hM hS (fun q h => h)
    refine va_calli (vx_runSW (As := [.ref (α 0), .int x1, .int 1]) (rest := []) ⟨hx, hb, hml, hown, hta⟩ (k_W_strike l hlt G cN cB cI cJ [] w hα hcp (rl_cok hrl) ho g x1 1 (Or.inr rfl) _) (cSW 3 hta aw_373 aw_0 aw_371 aw_372 rfl rfl (by decide +kernel) ⟨Nat.le_of_ble_eq_true rfl, Nat.le_of_ble_eq_true rfl⟩) (pV_S hK hM (xEA_at hE0 hS) hN) rfl rfl hl.1 rfl (lv_room (Nat.le_of_ble_eq_true rfl)) d_W_law_349 ⟨(show _ ≤ 601024 by omega), (show _ ≤ 7293034 by omega)⟩) hS (fun q _ h => hF q h) hF (fun k0 u9 t H locs ht hvm hpost hB hz1 hk1 hS => ?_)
    obtain ⟨hM1, hK1⟩ := hB
    rw [ht] at hM1
    obtain ⟨hM, hMM, hdj⟩ := mw_pair hMM hdj hM1 hk1 hF
    clear hM1 hK1 hF hk1 hz1
    obtain ⟨ho, hk0, hne, hze⟩ := hpost
    subst hk0
    refine lv_istore (lv' := [(5, .int (nI (gT 13 (gC (if ¬ x1 < 0 ∧ x1 < nI n then 1 else 0) 1 (if ¬ (hd (nC (v x1.toNatClampNeg))).2.2.2 = 1 then 1 else 0) (if (nI ka) < 200 then 1 else 0))))), (0, .ref b), (1, .ref (α 0)), (2, .ref mm), (3, .ref o), (4, .int (nI i))]) hx hb d_W_law_352 hl (by decide) rfl (fun ls hl => ?_)
    refine lv_aload_n hx hb d_W_law_354 rfl (lv_at hl 3 rfl) ?_
    refine lv_aload_n hx hb d_W_law_355 rfl (lv_at hl 1 rfl) ?_
    refine lv_iload hx hb d_W_law_356 (lv_at hl 5 rfl) ?_
    refine lv_iconst (v := 1) hx hb d_W_law_358 (by decide) ?_
    refine lv_iadd hx hb d_W_law_359 ?_
    refine va_sld hx hb hX hbl (Nat.not_le.mpr hbl) hS (sc_in (k := 1) (by omega) (by omega)) d_W_law_360 ?_
    rw [ex1]
    refine lv_aload_n hx hb d_W_law_361 rfl (lv_at hl 1 rfl) ?_
    refine lv_iload hx hb d_W_law_362 (lv_at hl 5 rfl) ?_
    refine lv_iconst (v := 2) hx hb d_W_law_364 (by decide) ?_
    refine lv_iadd hx hb d_W_law_365 ?_
    refine va_sld hx hb hX hbl (Nat.not_le.mpr hbl) hS (sc_in (k := 2) (by omega) (by omega)) d_W_law_366 ?_
    rw [ex2]
    refine lv_if_eq (tgt := 374) hx hb d_W_law_367 (by decide) (fun c_3 => absurd c_3 c_1) (fun c_3 => ?_)
    refine lv_iconst (v := 1) hx hb d_W_law_370 (by decide) ?_
    refine lv_goto (tgt := 375) hx hb d_W_law_371 (by decide) ?_
    have hF := mw_free hMM hS (fun q h => h)
    refine va_callv (va_runV (As := [.int x1, .int 1]) (rest := []) ⟨hx, hb, hml, hown, hta⟩ (k_M_strike l G _ _ cI _ wM had hmp hrl.1.2.1 rfl hrl.1.1 rfl x1 1  _) (cV 2 hta aw_654 aw_5 aw_651 aw_652 aw_653 rfl rfl (by decide +kernel) ⟨Nat.le_of_ble_eq_true rfl, Nat.le_of_ble_eq_true rfl⟩) (pZ_V hK hMM rfl hmp.1) rfl rfl hl.1 rfl (lv_room (Nat.le_of_ble_eq_true rfl)) d_W_law_375 ⟨(show _ ≤ 601024 by omega), (show _ ≤ 7293034 by omega)⟩) hS (fun q _ h => hF q h) hF (fun u8 t H locs ht hvm hpost hB hz1 hk1 hS => ?_)
    obtain ⟨hM1, hK1⟩ := hB
    rw [ht] at hM1
    obtain ⟨hMM, hM, hdj⟩ := mw_pair hM (dj_sym hdj) hM1 hk1 hF
    clear hM1 hK1 hF hk1 hz1
    rw [← cd_strike hrl x1 1] at hpost
    by_cases hC : gC (if ¬ x1 < 0 ∧ x1 < nI n then 1 else 0) 1 (if ¬ (hd (nC (v x1.toNatClampNeg))).2.2.2 = 1 then 1 else 0) (if (nI ka) < 200 then 1 else 0) = 0
    · obtain ⟨q9, hcp2⟩ := hze hC
      have hmp2 := hpost.2 hC
      refine lv_aload_n hx hb d_W_law_378 rfl (lv_at hl 3 rfl) ?_
      refine vp_callSi (W.runV (As := []) (rest := []) ⟨hx, hb, hml, hown, hta⟩ (k_M_thrown l G _ _ cI _ u8 had hmp2) (cV 0 hta aw_611 aw_5 aw_608 aw_609 aw_610 rfl rfl (by decide +kernel) ⟨Nat.le_of_ble_eq_true rfl, Nat.le_of_ble_eq_true rfl⟩) (pW_V hK hMM rfl hmp2.1) rfl rfl hl.1 rfl (lv_room (Nat.le_of_ble_eq_true rfl)) d_W_law_379 ⟨(show _ ≤ 601024 by omega), (show _ ≤ 7293034 by omega)⟩) (fun t_104 ht_104 => ?_)
      subst ht_104
      refine lv_iload hx hb d_W_law_382 (lv_at hl 0 rfl) ?_
      refine lv_icmp_eq (tgt := 389) hx hb d_W_law_384 (by decide) (fun c_105 => ?_) (fun c_105 => absurd (show nI (gT 13 (gC (if ¬ x1 < 0 ∧ x1 < nI n then 1 else 0) 1 (if ¬ (hd (nC (v x1.toNatClampNeg))).2.2.2 = 1 then 1 else 0) (if (nI ka) < 200 then 1 else 0))) = 0 by rw [hC]; rfl).symm c_105)
      refine lv_goto (tgt := 1036) hx hb d_W_law_389 (by decide) ?_
      refine W.widen (k := cells + 6) (n := slots + 40) (by omega) (by omega) ?_
      exact kk H locs ls ⟨u9.1, u8, α, ad, (va_up v x1.toNatClampNeg (nStr (v x1.toNatClampNeg) q9 se 1)), od, ro, bs, se, wr, kn, z, 0, n, (ka + 1), rn, sn, (fAct f ka x1 (if (1 : Int32) = 0 then 1 else 0) 0 se), u9.2, rfl, hα, had, (by rw [nI_1] at hcp2; exact hcp2), (by rw [nI_1] at hmp2; exact hmp2), nx_strike hrl (Or.inr rfl) hC (rl_ne hrl) q9, ho, hM, hMM, dj_sym hdj⟩ hS (lv_sub hl [1, 2, 3, 4, 5] rfl)
    · have hcp2 := hne hC
      have hmp2 := hpost.1 hC
      have hgt : ¬ nI (gT 13 (gC (if ¬ x1 < 0 ∧ x1 < nI n then 1 else 0) 1 (if ¬ (hd (nC (v x1.toNatClampNeg))).2.2.2 = 1 then 1 else 0) (if (nI ka) < 200 then 1 else 0))) = 0 := by
        rcases gC_cases (if ¬ x1 < 0 ∧ x1 < nI n then 1 else 0) 1 (if ¬ (hd (nC (v x1.toNatClampNeg))).2.2.2 = 1 then 1 else 0) (if (nI ka) < 200 then 1 else 0) with hcc | hcc | hcc | hcc | hcc
        · exact absurd hcc hC
        · rw [hcc.2]; decide
        · exact absurd hcc.1 (by decide)
        · rw [hcc.2]; decide
        · rw [hcc.2]; decide
      refine lv_aload_n hx hb d_W_law_378 rfl (lv_at hl 3 rfl) ?_
      refine vp_callSi (W.runV (As := []) (rest := []) ⟨hx, hb, hml, hown, hta⟩ (k_M_thrown l G _ _ cI _ u8 had hmp2) (cV 0 hta aw_611 aw_5 aw_608 aw_609 aw_610 rfl rfl (by decide +kernel) ⟨Nat.le_of_ble_eq_true rfl, Nat.le_of_ble_eq_true rfl⟩) (pW_V hK hMM rfl hmp2.1) rfl rfl hl.1 rfl (lv_room (Nat.le_of_ble_eq_true rfl)) d_W_law_379 ⟨(show _ ≤ 601024 by omega), (show _ ≤ 7293034 by omega)⟩) (fun t_104 ht_104 => ?_)
      subst ht_104
      refine lv_iload hx hb d_W_law_382 (lv_at hl 0 rfl) ?_
      refine lv_icmp_eq (tgt := 389) hx hb d_W_law_384 (by decide) (fun c_105 => ?_) (fun c_105 => absurd rfl c_105)
      refine lv_goto (tgt := 1036) hx hb d_W_law_389 (by decide) ?_
      refine W.widen (k := cells + 6) (n := slots + 40) (by omega) (by omega) ?_
      exact kk H locs ls ⟨u9.1, u8, α, ad, v, od, ro, bs, se, wr, kn, z, (nI (gT 13 (gC (if ¬ x1 < 0 ∧ x1 < nI n then 1 else 0) 1 (if ¬ (hd (nC (v x1.toNatClampNeg))).2.2.2 = 1 then 1 else 0) (if (nI ka) < 200 then 1 else 0)))), n, ka, rn, sn, f, u9.2, rfl, hα, had, hcp2, hmp2, hrl, ho, hM, hMM, dj_sym hdj⟩ hS (lv_sub hl [1, 2, 3, 4, 5] rfl)
set_option maxHeartbeats 4000000 in
set_option maxRecDepth 100000 in
theorem arm_ask (l : Launch) (hlt : l.stackTraces = false) {p : Program} {e : Env} {s : State} {m : MethodId} {below : List Frame} {meth : Method} {c : Code} {b L : Nat} {xs : Nat → Int32} (hx : p.tables.exec = Jvm.exec) (hb : c.code = c_W_law) (hml : c.maxLocals = 7) (hown : s.vm.findClass nR_W = some m.cls) (hta : ∀ w ∈ AL, w.before #[Value.ref b] s = true) (hX : va_X b L xs s s.heap) (hbl : b < s.heap.size) (hL : L ≤ 3072) (G : va_G) (cN cB cI cJ : ClassId) (hK : va_K G ncl [(cN, .object nR_N), (cB, .byte), (cI, .int), (cJ, .long)] s) (hE0 : xEA s) (hN : xN s) {x mm o i : Nat} (hi : i + 6 ≤ L) {H : Heap} {locs : List Loc} {cells slots : Nat} {Q : State → Prop} (hcb : cells + 6 ≤ 601024) (hsb : slots + 40 ≤ 7293034) {ls : Array Slot} (hLI : LI G cN cB cI cJ x mm o (fun q => s.heap.size ≤ q) H) (hS : va_S (fun q => s.heap.size ≤ q) s.heap H locs) (hl : lv_has ls 7 [(0, .ref b), (1, .ref x), (2, .ref mm), (3, .ref o), (4, .int (nI i))]) (kk : ∀ (H : Heap) (locs : List Loc) (ls : Array Slot), LI G cN cB cI cJ x mm o (fun q => s.heap.size ≤ q) H → va_S (fun q => s.heap.size ≤ q) s.heap H locs → lv_has ls 7 [(0, .ref b), (1, .ref x), (2, .ref mm), (3, .ref o), (4, .int (nI i))] → W p l e room_1 s m #[Value.ref b] below meth c H locs (cells + 6) (slots + 40) Q (F0 m 1036 ls [])) : W p l e room_1 s m #[Value.ref b] below meth c H locs cells slots Q (F0 m 392 ls []) := by
  obtain ⟨w, wM, α, ad, v, od, ro, bs, se, wr, kn, z, th, n, ka, rn, sn, f, g, rfl, hα, had, hcp, hmp, hrl, ho, hM, hMM, hdj⟩ := hLI
  obtain ⟨x1, ex1⟩ : ∃ z9 : Int32, xs (nI i + 1).toNatClampNeg = z9 := ⟨_, rfl⟩
  obtain ⟨x2, ex2⟩ : ∃ z9 : Int32, xs (nI i + 2).toNatClampNeg = z9 := ⟨_, rfl⟩
  obtain ⟨x3, ex3⟩ : ∃ z9 : Int32, xs (nI i + 3).toNatClampNeg = z9 := ⟨_, rfl⟩
  obtain ⟨x4, ex4⟩ : ∃ z9 : Int32, xs (nI i + 4).toNatClampNeg = z9 := ⟨_, rfl⟩
  obtain ⟨x5, ex5⟩ : ∃ z9 : Int32, xs (nI i + 5).toNatClampNeg = z9 := ⟨_, rfl⟩
  refine lv_aload_n hx hb d_W_law_392 rfl (lv_at hl 1 rfl) ?_
  refine lv_aload_n hx hb d_W_law_393 rfl (lv_at hl 0 rfl) ?_
  refine lv_iload hx hb d_W_law_394 (lv_at hl 4 rfl) ?_
  refine lv_iconst (v := 1) hx hb d_W_law_396 (by decide) ?_
  refine lv_iadd hx hb d_W_law_397 ?_
  refine va_sld hx hb hX hbl (Nat.not_le.mpr hbl) hS (sc_in (k := 1) (by omega) (by omega)) d_W_law_398 ?_
  rw [ex1]
  refine lv_aload_n hx hb d_W_law_399 rfl (lv_at hl 0 rfl) ?_
  refine lv_iload hx hb d_W_law_400 (lv_at hl 4 rfl) ?_
  refine lv_iconst (v := 2) hx hb d_W_law_402 (by decide) ?_
  refine lv_iadd hx hb d_W_law_403 ?_
  refine va_sld hx hb hX hbl (Nat.not_le.mpr hbl) hS (sc_in (k := 2) (by omega) (by omega)) d_W_law_404 ?_
  rw [ex2]
  refine lv_aload_n hx hb d_W_law_405 rfl (lv_at hl 0 rfl) ?_
  refine lv_iload hx hb d_W_law_406 (lv_at hl 4 rfl) ?_
  refine lv_iconst (v := 3) hx hb d_W_law_408 (by decide) ?_
  refine lv_iadd hx hb d_W_law_409 ?_
  refine va_sld hx hb hX hbl (Nat.not_le.mpr hbl) hS (sc_in (k := 3) (by omega) (by omega)) d_W_law_410 ?_
  rw [ex3]
  refine lv_aload_n hx hb d_W_law_411 rfl (lv_at hl 0 rfl) ?_
  refine lv_iload hx hb d_W_law_412 (lv_at hl 4 rfl) ?_
  refine lv_iconst (v := 4) hx hb d_W_law_414 (by decide) ?_
  refine lv_iadd hx hb d_W_law_415 ?_
  refine va_sld hx hb hX hbl (Nat.not_le.mpr hbl) hS (sc_in (k := 4) (by omega) (by omega)) d_W_law_416 ?_
  rw [ex4]
  refine lv_aload_n hx hb d_W_law_417 rfl (lv_at hl 0 rfl) ?_
  refine lv_iload hx hb d_W_law_418 (lv_at hl 4 rfl) ?_
  refine lv_iconst (v := 5) hx hb d_W_law_420 (by decide) ?_
  refine lv_iadd hx hb d_W_law_421 ?_
  refine va_sld hx hb hX hbl (Nat.not_le.mpr hbl) hS (sc_in (k := 5) (by omega) (by omega)) d_W_law_422 ?_
  rw [ex5]
  refine lv_aload_n hx hb d_W_law_423 rfl (lv_at hl 3 rfl) ?_
  have hF := mw_free hM hS (fun q h => h)
  refine va_calli (vx_runSW (As := [.ref (α 0), .int x1, .int x2, .int x3, .int x4, .int x5, .ref o]) (rest := []) ⟨hx, hb, hml, hown, hta⟩ (k_W_ask l hlt G cN cB cI cJ [] w hα hcp (rl_cok hrl) ho g x1 x2 x3 x4 x5 _) (cSW 7 hta aw_385 aw_0 aw_383 aw_384 rfl rfl (by decide +kernel) ⟨Nat.le_of_ble_eq_true rfl, Nat.le_of_ble_eq_true rfl⟩) (pV_S hK hM (xEA_at hE0 hS) hN) rfl rfl hl.1 rfl (lv_room (Nat.le_of_ble_eq_true rfl)) d_W_law_424 ⟨(show _ ≤ 601024 by omega), (show _ ≤ 7293034 by omega)⟩) hS (fun q _ h => hF q h) hF (fun k0 u9 t H locs ht hvm hpost hB hz1 hk1 hS => ?_)
  obtain ⟨hM1, hK1⟩ := hB
  rw [ht] at hM1
  obtain ⟨hM, hMM, hdj⟩ := mw_pair hMM hdj hM1 hk1 hF
  clear hM1 hK1 hF hk1 hz1
  obtain ⟨ho, hk0, hne, hze⟩ := hpost
  subst hk0
  refine lv_istore (lv' := [(5, .int (nI (gT 3 (gC (if (x3 = (-1) ∨ (¬ x3 < 0 ∧ ¬ 6 ≤ x3)) ∧ (x4 = (-1) ∨ (¬ x4 < 0 ∧ ¬ 10 ≤ x4)) then 1 else 0) (if ¬ x5 < 0 ∧ ¬ se < x5 then 1 else 0) 1 1)))), (0, .ref b), (1, .ref (α 0)), (2, .ref mm), (3, .ref o), (4, .int (nI i))]) hx hb d_W_law_427 hl (by decide) rfl (fun ls hl => ?_)
  refine lv_aload_n hx hb d_W_law_429 rfl (lv_at hl 3 rfl) ?_
  refine lv_aload_n hx hb d_W_law_430 rfl (lv_at hl 1 rfl) ?_
  refine lv_iload hx hb d_W_law_431 (lv_at hl 5 rfl) ?_
  refine lv_iconst (v := 1) hx hb d_W_law_433 (by decide) ?_
  refine lv_iadd hx hb d_W_law_434 ?_
  refine va_sld hx hb hX hbl (Nat.not_le.mpr hbl) hS (sc_in (k := 1) (by omega) (by omega)) d_W_law_435 ?_
  rw [ex1]
  refine lv_aload_n hx hb d_W_law_436 rfl (lv_at hl 1 rfl) ?_
  refine lv_iload hx hb d_W_law_437 (lv_at hl 5 rfl) ?_
  refine lv_iconst (v := 2) hx hb d_W_law_439 (by decide) ?_
  refine lv_iadd hx hb d_W_law_440 ?_
  refine va_sld hx hb hX hbl (Nat.not_le.mpr hbl) hS (sc_in (k := 2) (by omega) (by omega)) d_W_law_441 ?_
  rw [ex2]
  refine lv_aload_n hx hb d_W_law_442 rfl (lv_at hl 1 rfl) ?_
  refine lv_iload hx hb d_W_law_443 (lv_at hl 5 rfl) ?_
  refine lv_iconst (v := 3) hx hb d_W_law_445 (by decide) ?_
  refine lv_iadd hx hb d_W_law_446 ?_
  refine va_sld hx hb hX hbl (Nat.not_le.mpr hbl) hS (sc_in (k := 3) (by omega) (by omega)) d_W_law_447 ?_
  rw [ex3]
  refine lv_aload_n hx hb d_W_law_448 rfl (lv_at hl 1 rfl) ?_
  refine lv_iload hx hb d_W_law_449 (lv_at hl 5 rfl) ?_
  refine lv_iconst (v := 4) hx hb d_W_law_451 (by decide) ?_
  refine lv_iadd hx hb d_W_law_452 ?_
  refine va_sld hx hb hX hbl (Nat.not_le.mpr hbl) hS (sc_in (k := 4) (by omega) (by omega)) d_W_law_453 ?_
  rw [ex4]
  refine lv_aload_n hx hb d_W_law_454 rfl (lv_at hl 1 rfl) ?_
  refine lv_iload hx hb d_W_law_455 (lv_at hl 5 rfl) ?_
  refine lv_iconst (v := 5) hx hb d_W_law_457 (by decide) ?_
  refine lv_iadd hx hb d_W_law_458 ?_
  refine va_sld hx hb hX hbl (Nat.not_le.mpr hbl) hS (sc_in (k := 5) (by omega) (by omega)) d_W_law_459 ?_
  rw [ex5]
  have hF := mw_free hMM hS (fun q h => h)
  refine va_calli (va_runV (As := [.int x1, .int x2, .int x3, .int x4, .int x5]) (rest := []) ⟨hx, hb, hml, hown, hta⟩ (k_M_ask l G _ _ cI _ wM had hmp hrl.1.2.1 rfl hrl.1.1 rfl x1 x2 x3 x4 x5 (L0 := ((odL od n).filter (filM f none 1 x3 x4 x5 se ka))) (fol_od hrl.2.2.2.2.1 1 x3 x4 x5 se ka) (filt_len _ hrl.1.1) (filt_mem hrl _) _) (cV 5 hta aw_658 aw_5 aw_655 aw_656 aw_657 rfl rfl (by decide +kernel) ⟨Nat.le_of_ble_eq_true rfl, Nat.le_of_ble_eq_true rfl⟩) (pZ_V hK hMM rfl hmp.1) rfl rfl hl.1 rfl (lv_room (Nat.le_of_ble_eq_true rfl)) d_W_law_460 ⟨(show _ ≤ 601024 by omega), (show _ ≤ 7293034 by omega)⟩) hS (fun q _ h => hF q h) hF (fun r0 u8 t H locs ht hvm hpost hB hz1 hk1 hS => ?_)
  obtain ⟨hM1, hK1⟩ := hB
  rw [ht] at hM1
  obtain ⟨hMM, hM, hdj⟩ := mw_pair hM (dj_sym hdj) hM1 hk1 hF
  clear hM1 hK1 hF hk1 hz1
  rw [← cd_ask hrl x3 x4 x5] at hpost
  by_cases hC : gC (if (x3 = (-1) ∨ (¬ x3 < 0 ∧ ¬ 6 ≤ x3)) ∧ (x4 = (-1) ∨ (¬ x4 < 0 ∧ ¬ 10 ≤ x4)) then 1 else 0) (if ¬ x5 < 0 ∧ ¬ se < x5 then 1 else 0) 1 1 = 0
  · obtain ⟨r, hr1, hra, hcp2⟩ := hze hC
    obtain ⟨hr0, hmp2⟩ := hpost.2 hC
    have hrr : r = r0 := by rw [hra, hr0, (nx_ask hrl hC rfl).1]
    have hcmp : lg_cmp (u9.2 (0 : Int32).toNatClampNeg) r0.toInt64 = 0 := by rw [show u9.2 (0 : Int32).toNatClampNeg = r.toInt64 from hr1, hrr]; exact cmp_self _
    refine lv_istore (lv' := [(6, .int r0), (5, .int (nI (gT 3 (gC (if (x3 = (-1) ∨ (¬ x3 < 0 ∧ ¬ 6 ≤ x3)) ∧ (x4 = (-1) ∨ (¬ x4 < 0 ∧ ¬ 10 ≤ x4)) then 1 else 0) (if ¬ x5 < 0 ∧ ¬ se < x5 then 1 else 0) 1 1)))), (0, .ref b), (1, .ref (α 0)), (2, .ref mm), (3, .ref o), (4, .int (nI i))]) hx hb d_W_law_463 hl (by decide) rfl (fun ls hl => ?_)
    refine lv_aload_n hx hb d_W_law_465 rfl (lv_at hl 4 rfl) ?_
    refine vp_callSi (W.runV (As := []) (rest := []) ⟨hx, hb, hml, hown, hta⟩ (k_M_thrown l G _ _ cI _ u8 had hmp2) (cV 0 hta aw_611 aw_5 aw_608 aw_609 aw_610 rfl rfl (by decide +kernel) ⟨Nat.le_of_ble_eq_true rfl, Nat.le_of_ble_eq_true rfl⟩) (pW_V hK hMM rfl hmp2.1) rfl rfl hl.1 rfl (lv_room (Nat.le_of_ble_eq_true rfl)) d_W_law_466 ⟨(show _ ≤ 601024 by omega), (show _ ≤ 7293034 by omega)⟩) (fun t_101 ht_101 => ?_)
    subst ht_101
    refine lv_iload hx hb d_W_law_469 (lv_at hl 1 rfl) ?_
    refine lv_icmp_eq (tgt := 476) hx hb d_W_law_471 (by decide) (fun c_102 => ?_) (fun c_102 => absurd (show nI (gT 3 (gC (if (x3 = (-1) ∨ (¬ x3 < 0 ∧ ¬ 6 ≤ x3)) ∧ (x4 = (-1) ∨ (¬ x4 < 0 ∧ ¬ 10 ≤ x4)) then 1 else 0) (if ¬ x5 < 0 ∧ ¬ se < x5 then 1 else 0) 1 1)) = 0 by rw [hC]; rfl).symm c_102)
    refine lv_iload hx hb d_W_law_476 (lv_at hl 1 rfl) ?_
    refine lv_if_ne (tgt := 493) hx hb d_W_law_478 (by decide) (fun c_103 => absurd (show nI (gT 3 (gC (if (x3 = (-1) ∨ (¬ x3 < 0 ∧ ¬ 6 ≤ x3)) ∧ (x4 = (-1) ∨ (¬ x4 < 0 ∧ ¬ 10 ≤ x4)) then 1 else 0) (if ¬ x5 < 0 ∧ ¬ se < x5 then 1 else 0) 1 1)) = 0 by rw [hC]; rfl) c_103) (fun c_103 => ?_)
    refine lv_aload_n hx hb d_W_law_481 rfl (lv_at hl 5 rfl) ?_
    refine lv_iconst (v := 0) hx hb d_W_law_482 (by decide) ?_
    refine m_lald hx hb hK hM 3 (va_up_self u9.1 o (some (aJ cJ 1 u9.2))) rfl (vp_in_nI (n := 0) (by decide) (by decide)) d_W_law_483 ?_
    refine lv_iload hx hb d_W_law_484 (lv_at hl 0 rfl) ?_
    refine lv_i2l hx hb d_W_law_486 rfl ?_
    refine W.lcmp hx hb d_W_law_487 ?_
    rw [hcmp]
    refine lv_if_eq (tgt := 493) hx hb d_W_law_488 (by decide) (fun c_104 => ?_) (fun c_104 => absurd (by decide) c_104)
    refine lv_goto (tgt := 1036) hx hb d_W_law_493 (by decide) ?_
    refine W.widen (k := cells + 6) (n := slots + 40) (by omega) (by omega) ?_
    exact kk H locs ls ⟨u9.1, u8, α, ad, v, od, (fun i => (askR (askW v x1 x2 x3 x4 x5) od n 0).getD i 0), bs, se, wr, x5, 1, 0, n, ka, (askR (askW v x1 x2 x3 x4 x5) od n 0).length, sn, (va_up f 10 (askF (inW f x1 x2) (f 10) 0 ((odL od n).filter (filM f none 1 x3 x4 x5 se ka))).1), u9.2, rfl, hα, had, hcp2, (by rw [← (nx_ask hrl hC rfl).1] at hmp2; exact hmp2), (nx_ask hrl hC rfl).2, ho, hM, hMM, dj_sym hdj⟩ hS (lv_sub hl [2, 3, 4, 5, 6] rfl)
  · have hcp2 := hne hC
    have hmp2 := hpost.1 hC
    have hgt : ¬ nI (gT 3 (gC (if (x3 = (-1) ∨ (¬ x3 < 0 ∧ ¬ 6 ≤ x3)) ∧ (x4 = (-1) ∨ (¬ x4 < 0 ∧ ¬ 10 ≤ x4)) then 1 else 0) (if ¬ x5 < 0 ∧ ¬ se < x5 then 1 else 0) 1 1)) = 0 := by
      rcases gC_cases (if (x3 = (-1) ∨ (¬ x3 < 0 ∧ ¬ 6 ≤ x3)) ∧ (x4 = (-1) ∨ (¬ x4 < 0 ∧ ¬ 10 ≤ x4)) then 1 else 0) (if ¬ x5 < 0 ∧ ¬ se < x5 then 1 else 0) 1 1 with hcc | hcc | hcc | hcc | hcc
      · exact absurd hcc hC
      · rw [hcc.2]; decide
      · rw [hcc.2]; decide
      · exact absurd hcc.1 (by decide)
      · exact absurd hcc.1 (by decide)
    refine lv_istore (lv' := [(6, .int r0), (5, .int (nI (gT 3 (gC (if (x3 = (-1) ∨ (¬ x3 < 0 ∧ ¬ 6 ≤ x3)) ∧ (x4 = (-1) ∨ (¬ x4 < 0 ∧ ¬ 10 ≤ x4)) then 1 else 0) (if ¬ x5 < 0 ∧ ¬ se < x5 then 1 else 0) 1 1)))), (0, .ref b), (1, .ref (α 0)), (2, .ref mm), (3, .ref o), (4, .int (nI i))]) hx hb d_W_law_463 hl (by decide) rfl (fun ls hl => ?_)
    refine lv_aload_n hx hb d_W_law_465 rfl (lv_at hl 4 rfl) ?_
    refine vp_callSi (W.runV (As := []) (rest := []) ⟨hx, hb, hml, hown, hta⟩ (k_M_thrown l G _ _ cI _ u8 had hmp2) (cV 0 hta aw_611 aw_5 aw_608 aw_609 aw_610 rfl rfl (by decide +kernel) ⟨Nat.le_of_ble_eq_true rfl, Nat.le_of_ble_eq_true rfl⟩) (pW_V hK hMM rfl hmp2.1) rfl rfl hl.1 rfl (lv_room (Nat.le_of_ble_eq_true rfl)) d_W_law_466 ⟨(show _ ≤ 601024 by omega), (show _ ≤ 7293034 by omega)⟩) (fun t_101 ht_101 => ?_)
    subst ht_101
    refine lv_iload hx hb d_W_law_469 (lv_at hl 1 rfl) ?_
    refine lv_icmp_eq (tgt := 476) hx hb d_W_law_471 (by decide) (fun c_102 => ?_) (fun c_102 => absurd rfl c_102)
    refine lv_iload hx hb d_W_law_476 (lv_at hl 1 rfl) ?_
    refine lv_if_ne (tgt := 493) hx hb d_W_law_478 (by decide) (fun c_103 => ?_) (fun c_103 => absurd c_103 hgt)
    refine lv_goto (tgt := 1036) hx hb d_W_law_493 (by decide) ?_
    refine W.widen (k := cells + 6) (n := slots + 40) (by omega) (by omega) ?_
    exact kk H locs ls ⟨u9.1, u8, α, ad, v, od, ro, bs, se, wr, kn, z, (nI (gT 3 (gC (if (x3 = (-1) ∨ (¬ x3 < 0 ∧ ¬ 6 ≤ x3)) ∧ (x4 = (-1) ∨ (¬ x4 < 0 ∧ ¬ 10 ≤ x4)) then 1 else 0) (if ¬ x5 < 0 ∧ ¬ se < x5 then 1 else 0) 1 1))), n, ka, rn, sn, f, u9.2, rfl, hα, had, hcp2, hmp2, hrl, ho, hM, hMM, dj_sym hdj⟩ hS (lv_sub hl [2, 3, 4, 5, 6] rfl)
set_option maxHeartbeats 4000000 in
set_option maxRecDepth 100000 in
theorem arm_row (l : Launch) (hlt : l.stackTraces = false) {p : Program} {e : Env} {s : State} {m : MethodId} {below : List Frame} {meth : Method} {c : Code} {b L : Nat} {xs : Nat → Int32} (hx : p.tables.exec = Jvm.exec) (hb : c.code = c_W_law) (hml : c.maxLocals = 7) (hown : s.vm.findClass nR_W = some m.cls) (hta : ∀ w ∈ AL, w.before #[Value.ref b] s = true) (hX : va_X b L xs s s.heap) (hbl : b < s.heap.size) (hL : L ≤ 3072) (G : va_G) (cN cB cI cJ : ClassId) (hK : va_K G ncl [(cN, .object nR_N), (cB, .byte), (cI, .int), (cJ, .long)] s) (hE0 : xEA s) (hN : xN s) {x mm o i : Nat} (hi : i + 6 ≤ L) {H : Heap} {locs : List Loc} {cells slots : Nat} {Q : State → Prop} (hcb : cells + 6 ≤ 601024) (hsb : slots + 40 ≤ 7293034) {ls : Array Slot} (hLI : LI G cN cB cI cJ x mm o (fun q => s.heap.size ≤ q) H) (hS : va_S (fun q => s.heap.size ≤ q) s.heap H locs) (hl : lv_has ls 7 [(0, .ref b), (1, .ref x), (2, .ref mm), (3, .ref o), (4, .int (nI i))]) (kk : ∀ (H : Heap) (locs : List Loc) (ls : Array Slot), LI G cN cB cI cJ x mm o (fun q => s.heap.size ≤ q) H → va_S (fun q => s.heap.size ≤ q) s.heap H locs → lv_has ls 7 [(0, .ref b), (1, .ref x), (2, .ref mm), (3, .ref o), (4, .int (nI i))] → W p l e room_1 s m #[Value.ref b] below meth c H locs (cells + 6) (slots + 40) Q (F0 m 1036 ls [])) : W p l e room_1 s m #[Value.ref b] below meth c H locs cells slots Q (F0 m 496 ls []) := by
  obtain ⟨w, wM, α, ad, v, od, ro, bs, se, wr, kn, z, th, n, ka, rn, sn, f, g, rfl, hα, had, hcp, hmp, hrl, ho, hM, hMM, hdj⟩ := hLI
  obtain ⟨x1, ex1⟩ : ∃ z9 : Int32, xs (nI i + 1).toNatClampNeg = z9 := ⟨_, rfl⟩
  obtain ⟨x2, ex2⟩ : ∃ z9 : Int32, xs (nI i + 2).toNatClampNeg = z9 := ⟨_, rfl⟩
  obtain ⟨x3, ex3⟩ : ∃ z9 : Int32, xs (nI i + 3).toNatClampNeg = z9 := ⟨_, rfl⟩
  obtain ⟨x4, ex4⟩ : ∃ z9 : Int32, xs (nI i + 4).toNatClampNeg = z9 := ⟨_, rfl⟩
  obtain ⟨x5, ex5⟩ : ∃ z9 : Int32, xs (nI i + 5).toNatClampNeg = z9 := ⟨_, rfl⟩
  refine lv_aload_n hx hb d_W_law_496 rfl (lv_at hl 1 rfl) ?_
  refine lv_aload_n hx hb d_W_law_497 rfl (lv_at hl 0 rfl) ?_
  refine lv_iload hx hb d_W_law_498 (lv_at hl 4 rfl) ?_
  refine lv_iconst (v := 1) hx hb d_W_law_500 (by decide) ?_
  refine lv_iadd hx hb d_W_law_501 ?_
  refine va_sld hx hb hX hbl (Nat.not_le.mpr hbl) hS (sc_in (k := 1) (by omega) (by omega)) d_W_law_502 ?_
  rw [ex1]
  refine lv_aload_n hx hb d_W_law_503 rfl (lv_at hl 0 rfl) ?_
  refine lv_iload hx hb d_W_law_504 (lv_at hl 4 rfl) ?_
  refine lv_iconst (v := 2) hx hb d_W_law_506 (by decide) ?_
  refine lv_iadd hx hb d_W_law_507 ?_
  refine va_sld hx hb hX hbl (Nat.not_le.mpr hbl) hS (sc_in (k := 2) (by omega) (by omega)) d_W_law_508 ?_
  rw [ex2]
  refine lv_aload_n hx hb d_W_law_509 rfl (lv_at hl 3 rfl) ?_
  have hF := mw_free hM hS (fun q h => h)
  refine va_calli (vx_runSW (As := [.ref (α 0), .int x1, .int x2, .ref o]) (rest := []) ⟨hx, hb, hml, hown, hta⟩ (k_W_row l hlt G cN cB cI cJ [] w hα hcp (rl_cok hrl) ho g x1 x2 _) (cSW 4 hta aw_410 aw_0 aw_408 aw_409 rfl rfl (by decide +kernel) ⟨Nat.le_of_ble_eq_true rfl, Nat.le_of_ble_eq_true rfl⟩) (pV_S hK hM (xEA_at hE0 hS) hN) rfl rfl hl.1 rfl (lv_room (Nat.le_of_ble_eq_true rfl)) d_W_law_510 ⟨(show _ ≤ 601024 by omega), (show _ ≤ 7293034 by omega)⟩) hS (fun q _ h => hF q h) hF (fun k0 u9 t H locs ht hvm hpost hB hz1 hk1 hS => ?_)
  obtain ⟨hM1, hK1⟩ := hB
  rw [ht] at hM1
  obtain ⟨hM, hMM, hdj⟩ := mw_pair hMM hdj hM1 hk1 hF
  clear hM1 hK1 hF hk1 hz1
  obtain ⟨ho, hk0, hne, hze⟩ := hpost
  subst hk0
  refine lv_istore (lv' := [(5, .int (nI (gT 1 (gC (if (¬ x1 < 0 ∧ x1 < nI rn) ∧ (¬ x2 < 0 ∧ ¬ 4 < x2) then 1 else 0) 1 1 1)))), (0, .ref b), (1, .ref (α 0)), (2, .ref mm), (3, .ref o), (4, .int (nI i))]) hx hb d_W_law_513 hl (by decide) rfl (fun ls hl => ?_)
  refine lv_aload_n hx hb d_W_law_515 rfl (lv_at hl 3 rfl) ?_
  refine lv_aload_n hx hb d_W_law_516 rfl (lv_at hl 1 rfl) ?_
  refine lv_iload hx hb d_W_law_517 (lv_at hl 5 rfl) ?_
  refine lv_iconst (v := 1) hx hb d_W_law_519 (by decide) ?_
  refine lv_iadd hx hb d_W_law_520 ?_
  refine va_sld hx hb hX hbl (Nat.not_le.mpr hbl) hS (sc_in (k := 1) (by omega) (by omega)) d_W_law_521 ?_
  rw [ex1]
  refine lv_aload_n hx hb d_W_law_522 rfl (lv_at hl 1 rfl) ?_
  refine lv_iload hx hb d_W_law_523 (lv_at hl 5 rfl) ?_
  refine lv_iconst (v := 2) hx hb d_W_law_525 (by decide) ?_
  refine lv_iadd hx hb d_W_law_526 ?_
  refine va_sld hx hb hX hbl (Nat.not_le.mpr hbl) hS (sc_in (k := 2) (by omega) (by omega)) d_W_law_527 ?_
  rw [ex2]
  have hF := mw_free hMM hS (fun q h => h)
  refine va_calli (va_runV (As := [.int x1, .int x2]) (rest := []) ⟨hx, hb, hml, hown, hta⟩ (k_M_row l G _ _ cI _ wM had hmp hrl.1.2.1 rfl hrl.1.2.2.1 rfl (rl_hrn hrl) x1 x2  _) (cV 2 hta aw_670 aw_5 aw_667 aw_668 aw_669 rfl rfl (by decide +kernel) ⟨Nat.le_of_ble_eq_true rfl, Nat.le_of_ble_eq_true rfl⟩) (pZ_V hK hMM rfl hmp.1) rfl rfl hl.1 rfl (lv_room (Nat.le_of_ble_eq_true rfl)) d_W_law_528 ⟨(show _ ≤ 601024 by omega), (show _ ≤ 7293034 by omega)⟩) hS (fun q _ h => hF q h) hF (fun r0 u8 t H locs ht hvm hpost hB hz1 hk1 hS => ?_)
  obtain ⟨hM1, hK1⟩ := hB
  rw [ht] at hM1
  obtain ⟨hMM, hM, hdj⟩ := mw_pair hM (dj_sym hdj) hM1 hk1 hF
  clear hM1 hK1 hF hk1 hz1
  rw [← cd_row hrl x1 x2] at hpost
  by_cases hC : gC (if (¬ x1 < 0 ∧ x1 < nI rn) ∧ (¬ x2 < 0 ∧ ¬ 4 < x2) then 1 else 0) 1 1 1 = 0
  · obtain ⟨r, hr1, hra, hcp2⟩ := hze hC
    obtain ⟨hr0, hmp2⟩ := hpost.2 hC
    have hrr : r = r0 := by rw [hra, hr0]; exact an_row hrl hC
    have hcmp : lg_cmp (u9.2 (0 : Int32).toNatClampNeg) r0.toInt64 = 0 := by rw [show u9.2 (0 : Int32).toNatClampNeg = r.toInt64 from hr1, hrr]; exact cmp_self _
    refine lv_istore (lv' := [(6, .int r0), (5, .int (nI (gT 1 (gC (if (¬ x1 < 0 ∧ x1 < nI rn) ∧ (¬ x2 < 0 ∧ ¬ 4 < x2) then 1 else 0) 1 1 1)))), (0, .ref b), (1, .ref (α 0)), (2, .ref mm), (3, .ref o), (4, .int (nI i))]) hx hb d_W_law_531 hl (by decide) rfl (fun ls hl => ?_)
    refine lv_aload_n hx hb d_W_law_533 rfl (lv_at hl 4 rfl) ?_
    refine vp_callSi (W.runV (As := []) (rest := []) ⟨hx, hb, hml, hown, hta⟩ (k_M_thrown l G _ _ cI _ u8 had hmp2) (cV 0 hta aw_611 aw_5 aw_608 aw_609 aw_610 rfl rfl (by decide +kernel) ⟨Nat.le_of_ble_eq_true rfl, Nat.le_of_ble_eq_true rfl⟩) (pW_V hK hMM rfl hmp2.1) rfl rfl hl.1 rfl (lv_room (Nat.le_of_ble_eq_true rfl)) d_W_law_534 ⟨(show _ ≤ 601024 by omega), (show _ ≤ 7293034 by omega)⟩) (fun t_101 ht_101 => ?_)
    subst ht_101
    refine lv_iload hx hb d_W_law_537 (lv_at hl 1 rfl) ?_
    refine lv_icmp_eq (tgt := 544) hx hb d_W_law_539 (by decide) (fun c_102 => ?_) (fun c_102 => absurd (show nI (gT 1 (gC (if (¬ x1 < 0 ∧ x1 < nI rn) ∧ (¬ x2 < 0 ∧ ¬ 4 < x2) then 1 else 0) 1 1 1)) = 0 by rw [hC]; rfl).symm c_102)
    refine lv_iload hx hb d_W_law_544 (lv_at hl 1 rfl) ?_
    refine lv_if_ne (tgt := 561) hx hb d_W_law_546 (by decide) (fun c_103 => absurd (show nI (gT 1 (gC (if (¬ x1 < 0 ∧ x1 < nI rn) ∧ (¬ x2 < 0 ∧ ¬ 4 < x2) then 1 else 0) 1 1 1)) = 0 by rw [hC]; rfl) c_103) (fun c_103 => ?_)
    refine lv_aload_n hx hb d_W_law_549 rfl (lv_at hl 5 rfl) ?_
    refine lv_iconst (v := 0) hx hb d_W_law_550 (by decide) ?_
    refine m_lald hx hb hK hM 3 (va_up_self u9.1 o (some (aJ cJ 1 u9.2))) rfl (vp_in_nI (n := 0) (by decide) (by decide)) d_W_law_551 ?_
    refine lv_iload hx hb d_W_law_552 (lv_at hl 0 rfl) ?_
    refine lv_i2l hx hb d_W_law_554 rfl ?_
    refine W.lcmp hx hb d_W_law_555 ?_
    rw [hcmp]
    refine lv_if_eq (tgt := 561) hx hb d_W_law_556 (by decide) (fun c_104 => ?_) (fun c_104 => absurd (by decide) c_104)
    refine lv_goto (tgt := 1036) hx hb d_W_law_561 (by decide) ?_
    refine W.widen (k := cells + 6) (n := slots + 40) (by omega) (by omega) ?_
    exact kk H locs ls ⟨u9.1, u8, α, ad, v, od, ro, bs, se, wr, kn, z, 0, n, ka, rn, sn, f, u9.2, rfl, hα, had, hcp2, hmp2, hrl, ho, hM, hMM, dj_sym hdj⟩ hS (lv_sub hl [2, 3, 4, 5, 6] rfl)
  · have hcp2 := hne hC
    have hmp2 := hpost.1 hC
    have hgt : ¬ nI (gT 1 (gC (if (¬ x1 < 0 ∧ x1 < nI rn) ∧ (¬ x2 < 0 ∧ ¬ 4 < x2) then 1 else 0) 1 1 1)) = 0 := by
      rcases gC_cases (if (¬ x1 < 0 ∧ x1 < nI rn) ∧ (¬ x2 < 0 ∧ ¬ 4 < x2) then 1 else 0) 1 1 1 with hcc | hcc | hcc | hcc | hcc
      · exact absurd hcc hC
      · rw [hcc.2]; decide
      · exact absurd hcc.1 (by decide)
      · exact absurd hcc.1 (by decide)
      · exact absurd hcc.1 (by decide)
    refine lv_istore (lv' := [(6, .int r0), (5, .int (nI (gT 1 (gC (if (¬ x1 < 0 ∧ x1 < nI rn) ∧ (¬ x2 < 0 ∧ ¬ 4 < x2) then 1 else 0) 1 1 1)))), (0, .ref b), (1, .ref (α 0)), (2, .ref mm), (3, .ref o), (4, .int (nI i))]) hx hb d_W_law_531 hl (by decide) rfl (fun ls hl => ?_)
    refine lv_aload_n hx hb d_W_law_533 rfl (lv_at hl 4 rfl) ?_
    refine vp_callSi (W.runV (As := []) (rest := []) ⟨hx, hb, hml, hown, hta⟩ (k_M_thrown l G _ _ cI _ u8 had hmp2) (cV 0 hta aw_611 aw_5 aw_608 aw_609 aw_610 rfl rfl (by decide +kernel) ⟨Nat.le_of_ble_eq_true rfl, Nat.le_of_ble_eq_true rfl⟩) (pW_V hK hMM rfl hmp2.1) rfl rfl hl.1 rfl (lv_room (Nat.le_of_ble_eq_true rfl)) d_W_law_534 ⟨(show _ ≤ 601024 by omega), (show _ ≤ 7293034 by omega)⟩) (fun t_101 ht_101 => ?_)
    subst ht_101
    refine lv_iload hx hb d_W_law_537 (lv_at hl 1 rfl) ?_
    refine lv_icmp_eq (tgt := 544) hx hb d_W_law_539 (by decide) (fun c_102 => ?_) (fun c_102 => absurd rfl c_102)
    refine lv_iload hx hb d_W_law_544 (lv_at hl 1 rfl) ?_
    refine lv_if_ne (tgt := 561) hx hb d_W_law_546 (by decide) (fun c_103 => ?_) (fun c_103 => absurd c_103 hgt)
    refine lv_goto (tgt := 1036) hx hb d_W_law_561 (by decide) ?_
    refine W.widen (k := cells + 6) (n := slots + 40) (by omega) (by omega) ?_
    exact kk H locs ls ⟨u9.1, u8, α, ad, v, od, ro, bs, se, wr, kn, z, (nI (gT 1 (gC (if (¬ x1 < 0 ∧ x1 < nI rn) ∧ (¬ x2 < 0 ∧ ¬ 4 < x2) then 1 else 0) 1 1 1))), n, ka, rn, sn, f, u9.2, rfl, hα, had, hcp2, hmp2, hrl, ho, hM, hMM, dj_sym hdj⟩ hS (lv_sub hl [2, 3, 4, 5, 6] rfl)
set_option maxHeartbeats 4000000 in
set_option maxRecDepth 100000 in
theorem arm_reading (l : Launch) (hlt : l.stackTraces = false) {p : Program} {e : Env} {s : State} {m : MethodId} {below : List Frame} {meth : Method} {c : Code} {b L : Nat} {xs : Nat → Int32} (hx : p.tables.exec = Jvm.exec) (hb : c.code = c_W_law) (hml : c.maxLocals = 7) (hown : s.vm.findClass nR_W = some m.cls) (hta : ∀ w ∈ AL, w.before #[Value.ref b] s = true) (hX : va_X b L xs s s.heap) (hbl : b < s.heap.size) (hL : L ≤ 3072) (G : va_G) (cN cB cI cJ : ClassId) (hK : va_K G ncl [(cN, .object nR_N), (cB, .byte), (cI, .int), (cJ, .long)] s) (hE0 : xEA s) (hN : xN s) {x mm o i : Nat} (hi : i + 6 ≤ L) {H : Heap} {locs : List Loc} {cells slots : Nat} {Q : State → Prop} (hcb : cells + 6 ≤ 601024) (hsb : slots + 40 ≤ 7293034) {ls : Array Slot} (hLI : LI G cN cB cI cJ x mm o (fun q => s.heap.size ≤ q) H) (hS : va_S (fun q => s.heap.size ≤ q) s.heap H locs) (hl : lv_has ls 7 [(0, .ref b), (1, .ref x), (2, .ref mm), (3, .ref o), (4, .int (nI i))]) (kk : ∀ (H : Heap) (locs : List Loc) (ls : Array Slot), LI G cN cB cI cJ x mm o (fun q => s.heap.size ≤ q) H → va_S (fun q => s.heap.size ≤ q) s.heap H locs → lv_has ls 7 [(0, .ref b), (1, .ref x), (2, .ref mm), (3, .ref o), (4, .int (nI i))] → W p l e room_1 s m #[Value.ref b] below meth c H locs (cells + 6) (slots + 40) Q (F0 m 1036 ls [])) : W p l e room_1 s m #[Value.ref b] below meth c H locs cells slots Q (F0 m 564 ls []) := by
  obtain ⟨w, wM, α, ad, v, od, ro, bs, se, wr, kn, z, th, n, ka, rn, sn, f, g, rfl, hα, had, hcp, hmp, hrl, ho, hM, hMM, hdj⟩ := hLI
  obtain ⟨x1, ex1⟩ : ∃ z9 : Int32, xs (nI i + 1).toNatClampNeg = z9 := ⟨_, rfl⟩
  obtain ⟨x2, ex2⟩ : ∃ z9 : Int32, xs (nI i + 2).toNatClampNeg = z9 := ⟨_, rfl⟩
  obtain ⟨x3, ex3⟩ : ∃ z9 : Int32, xs (nI i + 3).toNatClampNeg = z9 := ⟨_, rfl⟩
  obtain ⟨x4, ex4⟩ : ∃ z9 : Int32, xs (nI i + 4).toNatClampNeg = z9 := ⟨_, rfl⟩
  obtain ⟨x5, ex5⟩ : ∃ z9 : Int32, xs (nI i + 5).toNatClampNeg = z9 := ⟨_, rfl⟩
  refine lv_aload_n hx hb d_W_law_564 rfl (lv_at hl 1 rfl) ?_
  refine lv_aload_n hx hb d_W_law_565 rfl (lv_at hl 0 rfl) ?_
  refine lv_iload hx hb d_W_law_566 (lv_at hl 4 rfl) ?_
  refine lv_iconst (v := 1) hx hb d_W_law_568 (by decide) ?_
  refine lv_iadd hx hb d_W_law_569 ?_
  refine va_sld hx hb hX hbl (Nat.not_le.mpr hbl) hS (sc_in (k := 1) (by omega) (by omega)) d_W_law_570 ?_
  rw [ex1]
  refine lv_aload_n hx hb d_W_law_571 rfl (lv_at hl 0 rfl) ?_
  refine lv_iload hx hb d_W_law_572 (lv_at hl 4 rfl) ?_
  refine lv_iconst (v := 2) hx hb d_W_law_574 (by decide) ?_
  refine lv_iadd hx hb d_W_law_575 ?_
  refine va_sld hx hb hX hbl (Nat.not_le.mpr hbl) hS (sc_in (k := 2) (by omega) (by omega)) d_W_law_576 ?_
  rw [ex2]
  refine lv_aload_n hx hb d_W_law_577 rfl (lv_at hl 3 rfl) ?_
  have hF := mw_free hM hS (fun q h => h)
  refine va_calli (vx_runSW (As := [.ref (α 0), .int x1, .int x2, .ref o]) (rest := []) ⟨hx, hb, hml, hown, hta⟩ (k_W_reading l hlt G cN cB cI cJ [] w hα hcp (rl_cok hrl) ho g x1 x2 _) (cSW 4 hta aw_426 aw_0 aw_424 aw_425 rfl rfl (by decide +kernel) ⟨Nat.le_of_ble_eq_true rfl, Nat.le_of_ble_eq_true rfl⟩) (pV_S hK hM (xEA_at hE0 hS) hN) rfl rfl hl.1 rfl (lv_room (Nat.le_of_ble_eq_true rfl)) d_W_law_578 ⟨(show _ ≤ 601024 by omega), (show _ ≤ 7293034 by omega)⟩) hS (fun q _ h => hF q h) hF (fun k0 u9 t H locs ht hvm hpost hB hz1 hk1 hS => ?_)
  obtain ⟨hM1, hK1⟩ := hB
  rw [ht] at hM1
  obtain ⟨hM, hMM, hdj⟩ := mw_pair hMM hdj hM1 hk1 hF
  clear hM1 hK1 hF hk1 hz1
  obtain ⟨ho, hk0, hne, hze⟩ := hpost
  subst hk0
  refine lv_istore (lv' := [(5, .int (nI (gT 7 (gC (if ¬ x1 < 0 ∧ ¬ 10 ≤ x1 then 1 else 0) (if ¬ x2 < 0 ∧ ¬ se < x2 then 1 else 0) (if (lastP (fun i => decide (¬ x2 < nT (v (od i))) && isRd x1 (v (od i))) n).isSome = true ∧ (firstP (fun i => decide (¬ nT (v (od i)) < x2) && isRd x1 (v (od i))) n 0).isSome = true then 1 else 0) 1)))), (0, .ref b), (1, .ref (α 0)), (2, .ref mm), (3, .ref o), (4, .int (nI i))]) hx hb d_W_law_581 hl (by decide) rfl (fun ls hl => ?_)
  refine lv_aload_n hx hb d_W_law_583 rfl (lv_at hl 3 rfl) ?_
  refine lv_aload_n hx hb d_W_law_584 rfl (lv_at hl 1 rfl) ?_
  refine lv_iload hx hb d_W_law_585 (lv_at hl 5 rfl) ?_
  refine lv_iconst (v := 1) hx hb d_W_law_587 (by decide) ?_
  refine lv_iadd hx hb d_W_law_588 ?_
  refine va_sld hx hb hX hbl (Nat.not_le.mpr hbl) hS (sc_in (k := 1) (by omega) (by omega)) d_W_law_589 ?_
  rw [ex1]
  refine lv_aload_n hx hb d_W_law_590 rfl (lv_at hl 1 rfl) ?_
  refine lv_iload hx hb d_W_law_591 (lv_at hl 5 rfl) ?_
  refine lv_iconst (v := 2) hx hb d_W_law_593 (by decide) ?_
  refine lv_iadd hx hb d_W_law_594 ?_
  refine va_sld hx hb hX hbl (Nat.not_le.mpr hbl) hS (sc_in (k := 2) (by omega) (by omega)) d_W_law_595 ?_
  rw [ex2]
  have hF := mw_free hMM hS (fun q h => h)
  refine va_calli (va_runV (As := [.int x1, .int x2]) (rest := []) ⟨hx, hb, hml, hown, hta⟩ (k_M_reading l G _ _ cI _ wM had hmp hrl.1.2.1 rfl hrl.1.1 rfl x1 x2 (L0 := ((odL od n).filter (filM f none 0 2 x1 se se ka))) (fun _ => (fol_od hrl.2.2.2.2.1 0 2 x1 se se ka)) (filt_mem hrl _) _) (cV 2 hta aw_678 aw_5 aw_675 aw_676 aw_677 rfl rfl (by decide +kernel) ⟨Nat.le_of_ble_eq_true rfl, Nat.le_of_ble_eq_true rfl⟩) (pZ_V hK hMM rfl hmp.1) rfl rfl hl.1 rfl (lv_room (Nat.le_of_ble_eq_true rfl)) d_W_law_596 ⟨(show _ ≤ 601024 by omega), (show _ ≤ 7293034 by omega)⟩) hS (fun q _ h => hF q h) hF (fun r0 u8 t H locs ht hvm hpost hB hz1 hk1 hS => ?_)
  obtain ⟨hM1, hK1⟩ := hB
  rw [ht] at hM1
  obtain ⟨hMM, hM, hdj⟩ := mw_pair hM (dj_sym hdj) hM1 hk1 hF
  clear hM1 hK1 hF hk1 hz1
  rw [← cd_reading hrl x1 x2] at hpost
  by_cases hC : gC (if ¬ x1 < 0 ∧ ¬ 10 ≤ x1 then 1 else 0) (if ¬ x2 < 0 ∧ ¬ se < x2 then 1 else 0) (if (lastP (fun i => decide (¬ x2 < nT (v (od i))) && isRd x1 (v (od i))) n).isSome = true ∧ (firstP (fun i => decide (¬ nT (v (od i)) < x2) && isRd x1 (v (od i))) n 0).isSome = true then 1 else 0) 1 = 0
  · obtain ⟨r, hr1, hra, hcp2⟩ := hze hC
    obtain ⟨hr0, hmp2⟩ := hpost.2 hC
    have hrr : r = r0 := by rw [hra, hr0]; exact an_reading hrl hC
    have hcmp : lg_cmp (u9.2 (0 : Int32).toNatClampNeg) r0.toInt64 = 0 := by rw [show u9.2 (0 : Int32).toNatClampNeg = r.toInt64 from hr1, hrr]; exact cmp_self _
    refine lv_istore (lv' := [(6, .int r0), (5, .int (nI (gT 7 (gC (if ¬ x1 < 0 ∧ ¬ 10 ≤ x1 then 1 else 0) (if ¬ x2 < 0 ∧ ¬ se < x2 then 1 else 0) (if (lastP (fun i => decide (¬ x2 < nT (v (od i))) && isRd x1 (v (od i))) n).isSome = true ∧ (firstP (fun i => decide (¬ nT (v (od i)) < x2) && isRd x1 (v (od i))) n 0).isSome = true then 1 else 0) 1)))), (0, .ref b), (1, .ref (α 0)), (2, .ref mm), (3, .ref o), (4, .int (nI i))]) hx hb d_W_law_599 hl (by decide) rfl (fun ls hl => ?_)
    refine lv_aload_n hx hb d_W_law_601 rfl (lv_at hl 4 rfl) ?_
    refine vp_callSi (W.runV (As := []) (rest := []) ⟨hx, hb, hml, hown, hta⟩ (k_M_thrown l G _ _ cI _ u8 had hmp2) (cV 0 hta aw_611 aw_5 aw_608 aw_609 aw_610 rfl rfl (by decide +kernel) ⟨Nat.le_of_ble_eq_true rfl, Nat.le_of_ble_eq_true rfl⟩) (pW_V hK hMM rfl hmp2.1) rfl rfl hl.1 rfl (lv_room (Nat.le_of_ble_eq_true rfl)) d_W_law_602 ⟨(show _ ≤ 601024 by omega), (show _ ≤ 7293034 by omega)⟩) (fun t_101 ht_101 => ?_)
    subst ht_101
    refine lv_iload hx hb d_W_law_605 (lv_at hl 1 rfl) ?_
    refine lv_icmp_eq (tgt := 612) hx hb d_W_law_607 (by decide) (fun c_102 => ?_) (fun c_102 => absurd (show nI (gT 7 (gC (if ¬ x1 < 0 ∧ ¬ 10 ≤ x1 then 1 else 0) (if ¬ x2 < 0 ∧ ¬ se < x2 then 1 else 0) (if (lastP (fun i => decide (¬ x2 < nT (v (od i))) && isRd x1 (v (od i))) n).isSome = true ∧ (firstP (fun i => decide (¬ nT (v (od i)) < x2) && isRd x1 (v (od i))) n 0).isSome = true then 1 else 0) 1)) = 0 by rw [hC]; rfl).symm c_102)
    refine lv_iload hx hb d_W_law_612 (lv_at hl 1 rfl) ?_
    refine lv_if_ne (tgt := 629) hx hb d_W_law_614 (by decide) (fun c_103 => absurd (show nI (gT 7 (gC (if ¬ x1 < 0 ∧ ¬ 10 ≤ x1 then 1 else 0) (if ¬ x2 < 0 ∧ ¬ se < x2 then 1 else 0) (if (lastP (fun i => decide (¬ x2 < nT (v (od i))) && isRd x1 (v (od i))) n).isSome = true ∧ (firstP (fun i => decide (¬ nT (v (od i)) < x2) && isRd x1 (v (od i))) n 0).isSome = true then 1 else 0) 1)) = 0 by rw [hC]; rfl) c_103) (fun c_103 => ?_)
    refine lv_aload_n hx hb d_W_law_617 rfl (lv_at hl 5 rfl) ?_
    refine lv_iconst (v := 0) hx hb d_W_law_618 (by decide) ?_
    refine m_lald hx hb hK hM 3 (va_up_self u9.1 o (some (aJ cJ 1 u9.2))) rfl (vp_in_nI (n := 0) (by decide) (by decide)) d_W_law_619 ?_
    refine lv_iload hx hb d_W_law_620 (lv_at hl 0 rfl) ?_
    refine lv_i2l hx hb d_W_law_622 rfl ?_
    refine W.lcmp hx hb d_W_law_623 ?_
    rw [hcmp]
    refine lv_if_eq (tgt := 629) hx hb d_W_law_624 (by decide) (fun c_104 => ?_) (fun c_104 => absurd (by decide) c_104)
    refine lv_goto (tgt := 1036) hx hb d_W_law_629 (by decide) ?_
    refine W.widen (k := cells + 6) (n := slots + 40) (by omega) (by omega) ?_
    exact kk H locs ls ⟨u9.1, u8, α, ad, v, od, ro, bs, se, wr, kn, z, 0, n, ka, rn, sn, f, u9.2, rfl, hα, had, hcp2, hmp2, hrl, ho, hM, hMM, dj_sym hdj⟩ hS (lv_sub hl [2, 3, 4, 5, 6] rfl)
  · have hcp2 := hne hC
    have hmp2 := hpost.1 hC
    have hgt : ¬ nI (gT 7 (gC (if ¬ x1 < 0 ∧ ¬ 10 ≤ x1 then 1 else 0) (if ¬ x2 < 0 ∧ ¬ se < x2 then 1 else 0) (if (lastP (fun i => decide (¬ x2 < nT (v (od i))) && isRd x1 (v (od i))) n).isSome = true ∧ (firstP (fun i => decide (¬ nT (v (od i)) < x2) && isRd x1 (v (od i))) n 0).isSome = true then 1 else 0) 1)) = 0 := by
      rcases gC_cases (if ¬ x1 < 0 ∧ ¬ 10 ≤ x1 then 1 else 0) (if ¬ x2 < 0 ∧ ¬ se < x2 then 1 else 0) (if (lastP (fun i => decide (¬ x2 < nT (v (od i))) && isRd x1 (v (od i))) n).isSome = true ∧ (firstP (fun i => decide (¬ nT (v (od i)) < x2) && isRd x1 (v (od i))) n 0).isSome = true then 1 else 0) 1 with hcc | hcc | hcc | hcc | hcc
      · exact absurd hcc hC
      · rw [hcc.2]; decide
      · rw [hcc.2]; decide
      · rw [hcc.2]; decide
      · exact absurd hcc.1 (by decide)
    refine lv_istore (lv' := [(6, .int r0), (5, .int (nI (gT 7 (gC (if ¬ x1 < 0 ∧ ¬ 10 ≤ x1 then 1 else 0) (if ¬ x2 < 0 ∧ ¬ se < x2 then 1 else 0) (if (lastP (fun i => decide (¬ x2 < nT (v (od i))) && isRd x1 (v (od i))) n).isSome = true ∧ (firstP (fun i => decide (¬ nT (v (od i)) < x2) && isRd x1 (v (od i))) n 0).isSome = true then 1 else 0) 1)))), (0, .ref b), (1, .ref (α 0)), (2, .ref mm), (3, .ref o), (4, .int (nI i))]) hx hb d_W_law_599 hl (by decide) rfl (fun ls hl => ?_)
    refine lv_aload_n hx hb d_W_law_601 rfl (lv_at hl 4 rfl) ?_
    refine vp_callSi (W.runV (As := []) (rest := []) ⟨hx, hb, hml, hown, hta⟩ (k_M_thrown l G _ _ cI _ u8 had hmp2) (cV 0 hta aw_611 aw_5 aw_608 aw_609 aw_610 rfl rfl (by decide +kernel) ⟨Nat.le_of_ble_eq_true rfl, Nat.le_of_ble_eq_true rfl⟩) (pW_V hK hMM rfl hmp2.1) rfl rfl hl.1 rfl (lv_room (Nat.le_of_ble_eq_true rfl)) d_W_law_602 ⟨(show _ ≤ 601024 by omega), (show _ ≤ 7293034 by omega)⟩) (fun t_101 ht_101 => ?_)
    subst ht_101
    refine lv_iload hx hb d_W_law_605 (lv_at hl 1 rfl) ?_
    refine lv_icmp_eq (tgt := 612) hx hb d_W_law_607 (by decide) (fun c_102 => ?_) (fun c_102 => absurd rfl c_102)
    refine lv_iload hx hb d_W_law_612 (lv_at hl 1 rfl) ?_
    refine lv_if_ne (tgt := 629) hx hb d_W_law_614 (by decide) (fun c_103 => ?_) (fun c_103 => absurd c_103 hgt)
    refine lv_goto (tgt := 1036) hx hb d_W_law_629 (by decide) ?_
    refine W.widen (k := cells + 6) (n := slots + 40) (by omega) (by omega) ?_
    exact kk H locs ls ⟨u9.1, u8, α, ad, v, od, ro, bs, se, wr, kn, z, (nI (gT 7 (gC (if ¬ x1 < 0 ∧ ¬ 10 ≤ x1 then 1 else 0) (if ¬ x2 < 0 ∧ ¬ se < x2 then 1 else 0) (if (lastP (fun i => decide (¬ x2 < nT (v (od i))) && isRd x1 (v (od i))) n).isSome = true ∧ (firstP (fun i => decide (¬ nT (v (od i)) < x2) && isRd x1 (v (od i))) n 0).isSome = true then 1 else 0) 1))), n, ka, rn, sn, f, u9.2, rfl, hα, had, hcp2, hmp2, hrl, ho, hM, hMM, dj_sym hdj⟩ hS (lv_sub hl [2, 3, 4, 5, 6] rfl)
set_option maxHeartbeats 4000000 in
set_option maxRecDepth 100000 in
theorem arm_gap (l : Launch) (hlt : l.stackTraces = false) {p : Program} {e : Env} {s : State} {m : MethodId} {below : List Frame} {meth : Method} {c : Code} {b L : Nat} {xs : Nat → Int32} (hx : p.tables.exec = Jvm.exec) (hb : c.code = c_W_law) (hml : c.maxLocals = 7) (hown : s.vm.findClass nR_W = some m.cls) (hta : ∀ w ∈ AL, w.before #[Value.ref b] s = true) (hX : va_X b L xs s s.heap) (hbl : b < s.heap.size) (hL : L ≤ 3072) (G : va_G) (cN cB cI cJ : ClassId) (hK : va_K G ncl [(cN, .object nR_N), (cB, .byte), (cI, .int), (cJ, .long)] s) (hE0 : xEA s) (hN : xN s) {x mm o i : Nat} (hi : i + 6 ≤ L) {H : Heap} {locs : List Loc} {cells slots : Nat} {Q : State → Prop} (hcb : cells + 6 ≤ 601024) (hsb : slots + 40 ≤ 7293034) {ls : Array Slot} (hLI : LI G cN cB cI cJ x mm o (fun q => s.heap.size ≤ q) H) (hS : va_S (fun q => s.heap.size ≤ q) s.heap H locs) (hl : lv_has ls 7 [(0, .ref b), (1, .ref x), (2, .ref mm), (3, .ref o), (4, .int (nI i))]) (kk : ∀ (H : Heap) (locs : List Loc) (ls : Array Slot), LI G cN cB cI cJ x mm o (fun q => s.heap.size ≤ q) H → va_S (fun q => s.heap.size ≤ q) s.heap H locs → lv_has ls 7 [(0, .ref b), (1, .ref x), (2, .ref mm), (3, .ref o), (4, .int (nI i))] → W p l e room_1 s m #[Value.ref b] below meth c H locs (cells + 6) (slots + 40) Q (F0 m 1036 ls [])) : W p l e room_1 s m #[Value.ref b] below meth c H locs cells slots Q (F0 m 632 ls []) := by
  obtain ⟨w, wM, α, ad, v, od, ro, bs, se, wr, kn, z, th, n, ka, rn, sn, f, g, rfl, hα, had, hcp, hmp, hrl, ho, hM, hMM, hdj⟩ := hLI
  obtain ⟨x1, ex1⟩ : ∃ z9 : Int32, xs (nI i + 1).toNatClampNeg = z9 := ⟨_, rfl⟩
  obtain ⟨x2, ex2⟩ : ∃ z9 : Int32, xs (nI i + 2).toNatClampNeg = z9 := ⟨_, rfl⟩
  obtain ⟨x3, ex3⟩ : ∃ z9 : Int32, xs (nI i + 3).toNatClampNeg = z9 := ⟨_, rfl⟩
  obtain ⟨x4, ex4⟩ : ∃ z9 : Int32, xs (nI i + 4).toNatClampNeg = z9 := ⟨_, rfl⟩
  obtain ⟨x5, ex5⟩ : ∃ z9 : Int32, xs (nI i + 5).toNatClampNeg = z9 := ⟨_, rfl⟩
  refine lv_aload_n hx hb d_W_law_632 rfl (lv_at hl 1 rfl) ?_
  refine lv_aload_n hx hb d_W_law_633 rfl (lv_at hl 0 rfl) ?_
  refine lv_iload hx hb d_W_law_634 (lv_at hl 4 rfl) ?_
  refine lv_iconst (v := 1) hx hb d_W_law_636 (by decide) ?_
  refine lv_iadd hx hb d_W_law_637 ?_
  refine va_sld hx hb hX hbl (Nat.not_le.mpr hbl) hS (sc_in (k := 1) (by omega) (by omega)) d_W_law_638 ?_
  rw [ex1]
  refine lv_aload_n hx hb d_W_law_639 rfl (lv_at hl 0 rfl) ?_
  refine lv_iload hx hb d_W_law_640 (lv_at hl 4 rfl) ?_
  refine lv_iconst (v := 2) hx hb d_W_law_642 (by decide) ?_
  refine lv_iadd hx hb d_W_law_643 ?_
  refine va_sld hx hb hX hbl (Nat.not_le.mpr hbl) hS (sc_in (k := 2) (by omega) (by omega)) d_W_law_644 ?_
  rw [ex2]
  refine lv_aload_n hx hb d_W_law_645 rfl (lv_at hl 3 rfl) ?_
  have hF := mw_free hM hS (fun q h => h)
  refine va_calli (vx_runSW (As := [.ref (α 0), .int x1, .int x2, .ref o]) (rest := []) ⟨hx, hb, hml, hown, hta⟩ (k_W_gap l hlt G cN cB cI cJ [] w hα hcp (rl_cok hrl) ho g x1 x2 _) (cSW 4 hta aw_454 aw_0 aw_452 aw_453 rfl rfl (by decide +kernel) ⟨Nat.le_of_ble_eq_true rfl, Nat.le_of_ble_eq_true rfl⟩) (pV_S hK hM (xEA_at hE0 hS) hN) rfl rfl hl.1 rfl (lv_room (Nat.le_of_ble_eq_true rfl)) d_W_law_646 ⟨(show _ ≤ 601024 by omega), (show _ ≤ 7293034 by omega)⟩) hS (fun q _ h => hF q h) hF (fun k0 u9 t H locs ht hvm hpost hB hz1 hk1 hS => ?_)
  obtain ⟨hM1, hK1⟩ := hB
  rw [ht] at hM1
  obtain ⟨hM, hMM, hdj⟩ := mw_pair hMM hdj hM1 hk1 hF
  clear hM1 hK1 hF hk1 hz1
  obtain ⟨ho, hk0, hne, hze⟩ := hpost
  subst hk0
  refine lv_istore (lv' := [(5, .int (nI (gT 2 (gC 1 (if (¬ x1 < 0 ∧ ¬ 99999 < x1) ∧ 0 ≤ x2 then 1 else 0) 1 1)))), (0, .ref b), (1, .ref (α 0)), (2, .ref mm), (3, .ref o), (4, .int (nI i))]) hx hb d_W_law_649 hl (by decide) rfl (fun ls hl => ?_)
  refine lv_aload_n hx hb d_W_law_651 rfl (lv_at hl 3 rfl) ?_
  refine lv_aload_n hx hb d_W_law_652 rfl (lv_at hl 1 rfl) ?_
  refine lv_iload hx hb d_W_law_653 (lv_at hl 5 rfl) ?_
  refine lv_iconst (v := 1) hx hb d_W_law_655 (by decide) ?_
  refine lv_iadd hx hb d_W_law_656 ?_
  refine va_sld hx hb hX hbl (Nat.not_le.mpr hbl) hS (sc_in (k := 1) (by omega) (by omega)) d_W_law_657 ?_
  rw [ex1]
  refine lv_aload_n hx hb d_W_law_658 rfl (lv_at hl 1 rfl) ?_
  refine lv_iload hx hb d_W_law_659 (lv_at hl 5 rfl) ?_
  refine lv_iconst (v := 2) hx hb d_W_law_661 (by decide) ?_
  refine lv_iadd hx hb d_W_law_662 ?_
  refine va_sld hx hb hX hbl (Nat.not_le.mpr hbl) hS (sc_in (k := 2) (by omega) (by omega)) d_W_law_663 ?_
  rw [ex2]
  have hF := mw_free hMM hS (fun q h => h)
  refine va_calli (va_runV (As := [.int x1, .int x2]) (rest := []) ⟨hx, hb, hml, hown, hta⟩ (k_M_gap l G _ _ cI _ wM had hmp hrl.1.2.1 rfl hrl.1.1 rfl x1 x2 (L0 := ((odL od n).filter (filM f none 0 (-1) (-1) se se ka))) (fol_od hrl.2.2.2.2.1 0 (-1) (-1) se se ka) (filt_mem hrl _) _) (cV 2 hta aw_685 aw_5 aw_682 aw_683 aw_684 rfl rfl (by decide +kernel) ⟨Nat.le_of_ble_eq_true rfl, Nat.le_of_ble_eq_true rfl⟩) (pZ_V hK hMM rfl hmp.1) rfl rfl hl.1 rfl (lv_room (Nat.le_of_ble_eq_true rfl)) d_W_law_664 ⟨(show _ ≤ 601024 by omega), (show _ ≤ 7293034 by omega)⟩) hS (fun q _ h => hF q h) hF (fun r0 u8 t H locs ht hvm hpost hB hz1 hk1 hS => ?_)
  obtain ⟨hM1, hK1⟩ := hB
  rw [ht] at hM1
  obtain ⟨hMM, hM, hdj⟩ := mw_pair hM (dj_sym hdj) hM1 hk1 hF
  clear hM1 hK1 hF hk1 hz1
  rw [← cd_gap x1 x2] at hpost
  by_cases hC : gC 1 (if (¬ x1 < 0 ∧ ¬ 99999 < x1) ∧ 0 ≤ x2 then 1 else 0) 1 1 = 0
  · obtain ⟨r, hr1, hra, hcp2⟩ := hze hC
    obtain ⟨hr0, hmp2⟩ := hpost.2 hC
    have hrr : r = r0 := by rw [hra, hr0]; exact an_gap hrl x1 x2
    have hcmp : lg_cmp (u9.2 (0 : Int32).toNatClampNeg) r0.toInt64 = 0 := by rw [show u9.2 (0 : Int32).toNatClampNeg = r.toInt64 from hr1, hrr]; exact cmp_self _
    refine lv_istore (lv' := [(6, .int r0), (5, .int (nI (gT 2 (gC 1 (if (¬ x1 < 0 ∧ ¬ 99999 < x1) ∧ 0 ≤ x2 then 1 else 0) 1 1)))), (0, .ref b), (1, .ref (α 0)), (2, .ref mm), (3, .ref o), (4, .int (nI i))]) hx hb d_W_law_667 hl (by decide) rfl (fun ls hl => ?_)
    refine lv_aload_n hx hb d_W_law_669 rfl (lv_at hl 4 rfl) ?_
    refine vp_callSi (W.runV (As := []) (rest := []) ⟨hx, hb, hml, hown, hta⟩ (k_M_thrown l G _ _ cI _ u8 had hmp2) (cV 0 hta aw_611 aw_5 aw_608 aw_609 aw_610 rfl rfl (by decide +kernel) ⟨Nat.le_of_ble_eq_true rfl, Nat.le_of_ble_eq_true rfl⟩) (pW_V hK hMM rfl hmp2.1) rfl rfl hl.1 rfl (lv_room (Nat.le_of_ble_eq_true rfl)) d_W_law_670 ⟨(show _ ≤ 601024 by omega), (show _ ≤ 7293034 by omega)⟩) (fun t_101 ht_101 => ?_)
    subst ht_101
    refine lv_iload hx hb d_W_law_673 (lv_at hl 1 rfl) ?_
    refine lv_icmp_eq (tgt := 680) hx hb d_W_law_675 (by decide) (fun c_102 => ?_) (fun c_102 => absurd (show nI (gT 2 (gC 1 (if (¬ x1 < 0 ∧ ¬ 99999 < x1) ∧ 0 ≤ x2 then 1 else 0) 1 1)) = 0 by rw [hC]; rfl).symm c_102)
    refine lv_iload hx hb d_W_law_680 (lv_at hl 1 rfl) ?_
    refine lv_if_ne (tgt := 697) hx hb d_W_law_682 (by decide) (fun c_103 => absurd (show nI (gT 2 (gC 1 (if (¬ x1 < 0 ∧ ¬ 99999 < x1) ∧ 0 ≤ x2 then 1 else 0) 1 1)) = 0 by rw [hC]; rfl) c_103) (fun c_103 => ?_)
    refine lv_aload_n hx hb d_W_law_685 rfl (lv_at hl 5 rfl) ?_
    refine lv_iconst (v := 0) hx hb d_W_law_686 (by decide) ?_
    refine m_lald hx hb hK hM 3 (va_up_self u9.1 o (some (aJ cJ 1 u9.2))) rfl (vp_in_nI (n := 0) (by decide) (by decide)) d_W_law_687 ?_
    refine lv_iload hx hb d_W_law_688 (lv_at hl 0 rfl) ?_
    refine lv_i2l hx hb d_W_law_690 rfl ?_
    refine W.lcmp hx hb d_W_law_691 ?_
    rw [hcmp]
    refine lv_if_eq (tgt := 697) hx hb d_W_law_692 (by decide) (fun c_104 => ?_) (fun c_104 => absurd (by decide) c_104)
    refine lv_goto (tgt := 1036) hx hb d_W_law_697 (by decide) ?_
    refine W.widen (k := cells + 6) (n := slots + 40) (by omega) (by omega) ?_
    exact kk H locs ls ⟨u9.1, u8, α, ad, v, od, ro, bs, se, wr, kn, z, 0, n, ka, rn, sn, f, u9.2, rfl, hα, had, hcp2, hmp2, hrl, ho, hM, hMM, dj_sym hdj⟩ hS (lv_sub hl [2, 3, 4, 5, 6] rfl)
  · have hcp2 := hne hC
    have hmp2 := hpost.1 hC
    have hgt : ¬ nI (gT 2 (gC 1 (if (¬ x1 < 0 ∧ ¬ 99999 < x1) ∧ 0 ≤ x2 then 1 else 0) 1 1)) = 0 := by
      rcases gC_cases 1 (if (¬ x1 < 0 ∧ ¬ 99999 < x1) ∧ 0 ≤ x2 then 1 else 0) 1 1 with hcc | hcc | hcc | hcc | hcc
      · exact absurd hcc hC
      · exact absurd hcc.1 (by decide)
      · rw [hcc.2]; decide
      · exact absurd hcc.1 (by decide)
      · exact absurd hcc.1 (by decide)
    refine lv_istore (lv' := [(6, .int r0), (5, .int (nI (gT 2 (gC 1 (if (¬ x1 < 0 ∧ ¬ 99999 < x1) ∧ 0 ≤ x2 then 1 else 0) 1 1)))), (0, .ref b), (1, .ref (α 0)), (2, .ref mm), (3, .ref o), (4, .int (nI i))]) hx hb d_W_law_667 hl (by decide) rfl (fun ls hl => ?_)
    refine lv_aload_n hx hb d_W_law_669 rfl (lv_at hl 4 rfl) ?_
    refine vp_callSi (W.runV (As := []) (rest := []) ⟨hx, hb, hml, hown, hta⟩ (k_M_thrown l G _ _ cI _ u8 had hmp2) (cV 0 hta aw_611 aw_5 aw_608 aw_609 aw_610 rfl rfl (by decide +kernel) ⟨Nat.le_of_ble_eq_true rfl, Nat.le_of_ble_eq_true rfl⟩) (pW_V hK hMM rfl hmp2.1) rfl rfl hl.1 rfl (lv_room (Nat.le_of_ble_eq_true rfl)) d_W_law_670 ⟨(show _ ≤ 601024 by omega), (show _ ≤ 7293034 by omega)⟩) (fun t_101 ht_101 => ?_)
    subst ht_101
    refine lv_iload hx hb d_W_law_673 (lv_at hl 1 rfl) ?_
    refine lv_icmp_eq (tgt := 680) hx hb d_W_law_675 (by decide) (fun c_102 => ?_) (fun c_102 => absurd rfl c_102)
    refine lv_iload hx hb d_W_law_680 (lv_at hl 1 rfl) ?_
    refine lv_if_ne (tgt := 697) hx hb d_W_law_682 (by decide) (fun c_103 => ?_) (fun c_103 => absurd c_103 hgt)
    refine lv_goto (tgt := 1036) hx hb d_W_law_697 (by decide) ?_
    refine W.widen (k := cells + 6) (n := slots + 40) (by omega) (by omega) ?_
    exact kk H locs ls ⟨u9.1, u8, α, ad, v, od, ro, bs, se, wr, kn, z, (nI (gT 2 (gC 1 (if (¬ x1 < 0 ∧ ¬ 99999 < x1) ∧ 0 ≤ x2 then 1 else 0) 1 1))), n, ka, rn, sn, f, u9.2, rfl, hα, had, hcp2, hmp2, hrl, ho, hM, hMM, dj_sym hdj⟩ hS (lv_sub hl [2, 3, 4, 5, 6] rfl)
set_option maxHeartbeats 4000000 in
set_option maxRecDepth 100000 in
theorem arm_digest (l : Launch) (hlt : l.stackTraces = false) {p : Program} {e : Env} {s : State} {m : MethodId} {below : List Frame} {meth : Method} {c : Code} {b L : Nat} {xs : Nat → Int32} (hx : p.tables.exec = Jvm.exec) (hb : c.code = c_W_law) (hml : c.maxLocals = 7) (hown : s.vm.findClass nR_W = some m.cls) (hta : ∀ w ∈ AL, w.before #[Value.ref b] s = true) (hX : va_X b L xs s s.heap) (hbl : b < s.heap.size) (hL : L ≤ 3072) (G : va_G) (cN cB cI cJ : ClassId) (hK : va_K G ncl [(cN, .object nR_N), (cB, .byte), (cI, .int), (cJ, .long)] s) (hE0 : xEA s) (hN : xN s) {x mm o i : Nat} (hi : i + 6 ≤ L) {H : Heap} {locs : List Loc} {cells slots : Nat} {Q : State → Prop} (hcb : cells + 6 ≤ 601024) (hsb : slots + 40 ≤ 7293034) {ls : Array Slot} (hLI : LI G cN cB cI cJ x mm o (fun q => s.heap.size ≤ q) H) (hS : va_S (fun q => s.heap.size ≤ q) s.heap H locs) (hl : lv_has ls 7 [(0, .ref b), (1, .ref x), (2, .ref mm), (3, .ref o), (4, .int (nI i))]) (kk : ∀ (H : Heap) (locs : List Loc) (ls : Array Slot), LI G cN cB cI cJ x mm o (fun q => s.heap.size ≤ q) H → va_S (fun q => s.heap.size ≤ q) s.heap H locs → lv_has ls 7 [(0, .ref b), (1, .ref x), (2, .ref mm), (3, .ref o), (4, .int (nI i))] → W p l e room_1 s m #[Value.ref b] below meth c H locs (cells + 6) (slots + 40) Q (F0 m 1036 ls [])) : W p l e room_1 s m #[Value.ref b] below meth c H locs cells slots Q (F0 m 700 ls []) := by
  obtain ⟨w, wM, α, ad, v, od, ro, bs, se, wr, kn, z, th, n, ka, rn, sn, f, g, rfl, hα, had, hcp, hmp, hrl, ho, hM, hMM, hdj⟩ := hLI
  obtain ⟨x1, ex1⟩ : ∃ z9 : Int32, xs (nI i + 1).toNatClampNeg = z9 := ⟨_, rfl⟩
  obtain ⟨x2, ex2⟩ : ∃ z9 : Int32, xs (nI i + 2).toNatClampNeg = z9 := ⟨_, rfl⟩
  obtain ⟨x3, ex3⟩ : ∃ z9 : Int32, xs (nI i + 3).toNatClampNeg = z9 := ⟨_, rfl⟩
  obtain ⟨x4, ex4⟩ : ∃ z9 : Int32, xs (nI i + 4).toNatClampNeg = z9 := ⟨_, rfl⟩
  obtain ⟨x5, ex5⟩ : ∃ z9 : Int32, xs (nI i + 5).toNatClampNeg = z9 := ⟨_, rfl⟩
  refine lv_aload_n hx hb d_W_law_700 rfl (lv_at hl 1 rfl) ?_
  refine lv_aload_n hx hb d_W_law_701 rfl (lv_at hl 0 rfl) ?_
  refine lv_iload hx hb d_W_law_702 (lv_at hl 4 rfl) ?_
  refine lv_iconst (v := 1) hx hb d_W_law_704 (by decide) ?_
  refine lv_iadd hx hb d_W_law_705 ?_
  refine va_sld hx hb hX hbl (Nat.not_le.mpr hbl) hS (sc_in (k := 1) (by omega) (by omega)) d_W_law_706 ?_
  rw [ex1]
  refine lv_aload_n hx hb d_W_law_707 rfl (lv_at hl 3 rfl) ?_
  have hF := mw_free hM hS (fun q h => h)
  refine va_calli (vx_runSW (As := [.ref (α 0), .int x1, .ref o]) (rest := []) ⟨hx, hb, hml, hown, hta⟩ (k_W_digest l hlt G cN cB cI cJ [] w hα hcp (rl_cok hrl) ho g x1 _) (cSW 3 hta aw_463 aw_0 aw_461 aw_462 rfl rfl (by decide +kernel) ⟨Nat.le_of_ble_eq_true rfl, Nat.le_of_ble_eq_true rfl⟩) (pV_S hK hM (xEA_at hE0 hS) hN) rfl rfl hl.1 rfl (lv_room (Nat.le_of_ble_eq_true rfl)) d_W_law_708 ⟨(show _ ≤ 601024 by omega), (show _ ≤ 7293034 by omega)⟩) hS (fun q _ h => hF q h) hF (fun k0 u9 t H locs ht hvm hpost hB hz1 hk1 hS => ?_)
  obtain ⟨hM1, hK1⟩ := hB
  rw [ht] at hM1
  obtain ⟨hM, hMM, hdj⟩ := mw_pair hMM hdj hM1 hk1 hF
  clear hM1 hK1 hF hk1 hz1
  obtain ⟨ho, hk0, hne, hze⟩ := hpost
  subst hk0
  refine lv_istore (lv' := [(5, .int (nI (gT 1 (gC (if ¬ x1 < 0 ∧ x1 < nI n then 1 else 0) 1 1 1)))), (0, .ref b), (1, .ref (α 0)), (2, .ref mm), (3, .ref o), (4, .int (nI i))]) hx hb d_W_law_711 hl (by decide) rfl (fun ls hl => ?_)
  refine lv_aload_n hx hb d_W_law_713 rfl (lv_at hl 3 rfl) ?_
  refine lv_aload_n hx hb d_W_law_714 rfl (lv_at hl 1 rfl) ?_
  refine lv_iload hx hb d_W_law_715 (lv_at hl 5 rfl) ?_
  refine lv_iconst (v := 1) hx hb d_W_law_717 (by decide) ?_
  refine lv_iadd hx hb d_W_law_718 ?_
  refine va_sld hx hb hX hbl (Nat.not_le.mpr hbl) hS (sc_in (k := 1) (by omega) (by omega)) d_W_law_719 ?_
  rw [ex1]
  have hF := mw_free hMM hS (fun q h => h)
  refine va_calli (va_runV (As := [.int x1]) (rest := []) ⟨hx, hb, hml, hown, hta⟩ (k_M_digest l G _ _ cI _ wM had hmp hrl.1.2.1 rfl hrl.1.1 rfl x1  _) (cV 1 hta aw_690 aw_5 aw_687 aw_688 aw_689 rfl rfl (by decide +kernel) ⟨Nat.le_of_ble_eq_true rfl, Nat.le_of_ble_eq_true rfl⟩) (pZ_V hK hMM rfl hmp.1) rfl rfl hl.1 rfl (lv_room (Nat.le_of_ble_eq_true rfl)) d_W_law_720 ⟨(show _ ≤ 601024 by omega), (show _ ≤ 7293034 by omega)⟩) hS (fun q _ h => hF q h) hF (fun r0 u8 t H locs ht hvm hpost hB hz1 hk1 hS => ?_)
  obtain ⟨hM1, hK1⟩ := hB
  rw [ht] at hM1
  obtain ⟨hMM, hM, hdj⟩ := mw_pair hM (dj_sym hdj) hM1 hk1 hF
  clear hM1 hK1 hF hk1 hz1
  rw [← cd_digest hrl x1] at hpost
  by_cases hC : gC (if ¬ x1 < 0 ∧ x1 < nI n then 1 else 0) 1 1 1 = 0
  · obtain ⟨r, hr1, hra, hcp2⟩ := hze hC
    obtain ⟨hr0, hmp2⟩ := hpost.2 hC
    have hrr : r = r0 := by rw [hra, hr0]; exact an_digest hrl hC
    have hcmp : lg_cmp (u9.2 (0 : Int32).toNatClampNeg) r0.toInt64 = 0 := by rw [show u9.2 (0 : Int32).toNatClampNeg = r.toInt64 from hr1, hrr]; exact cmp_self _
    refine lv_istore (lv' := [(6, .int r0), (5, .int (nI (gT 1 (gC (if ¬ x1 < 0 ∧ x1 < nI n then 1 else 0) 1 1 1)))), (0, .ref b), (1, .ref (α 0)), (2, .ref mm), (3, .ref o), (4, .int (nI i))]) hx hb d_W_law_723 hl (by decide) rfl (fun ls hl => ?_)
    refine lv_aload_n hx hb d_W_law_725 rfl (lv_at hl 4 rfl) ?_
    refine vp_callSi (W.runV (As := []) (rest := []) ⟨hx, hb, hml, hown, hta⟩ (k_M_thrown l G _ _ cI _ u8 had hmp2) (cV 0 hta aw_611 aw_5 aw_608 aw_609 aw_610 rfl rfl (by decide +kernel) ⟨Nat.le_of_ble_eq_true rfl, Nat.le_of_ble_eq_true rfl⟩) (pW_V hK hMM rfl hmp2.1) rfl rfl hl.1 rfl (lv_room (Nat.le_of_ble_eq_true rfl)) d_W_law_726 ⟨(show _ ≤ 601024 by omega), (show _ ≤ 7293034 by omega)⟩) (fun t_101 ht_101 => ?_)
    subst ht_101
    refine lv_iload hx hb d_W_law_729 (lv_at hl 1 rfl) ?_
    refine lv_icmp_eq (tgt := 736) hx hb d_W_law_731 (by decide) (fun c_102 => ?_) (fun c_102 => absurd (show nI (gT 1 (gC (if ¬ x1 < 0 ∧ x1 < nI n then 1 else 0) 1 1 1)) = 0 by rw [hC]; rfl).symm c_102)
    refine lv_iload hx hb d_W_law_736 (lv_at hl 1 rfl) ?_
    refine lv_if_ne (tgt := 753) hx hb d_W_law_738 (by decide) (fun c_103 => absurd (show nI (gT 1 (gC (if ¬ x1 < 0 ∧ x1 < nI n then 1 else 0) 1 1 1)) = 0 by rw [hC]; rfl) c_103) (fun c_103 => ?_)
    refine lv_aload_n hx hb d_W_law_741 rfl (lv_at hl 5 rfl) ?_
    refine lv_iconst (v := 0) hx hb d_W_law_742 (by decide) ?_
    refine m_lald hx hb hK hM 3 (va_up_self u9.1 o (some (aJ cJ 1 u9.2))) rfl (vp_in_nI (n := 0) (by decide) (by decide)) d_W_law_743 ?_
    refine lv_iload hx hb d_W_law_744 (lv_at hl 0 rfl) ?_
    refine lv_i2l hx hb d_W_law_746 rfl ?_
    refine W.lcmp hx hb d_W_law_747 ?_
    rw [hcmp]
    refine lv_if_eq (tgt := 753) hx hb d_W_law_748 (by decide) (fun c_104 => ?_) (fun c_104 => absurd (by decide) c_104)
    refine lv_goto (tgt := 1036) hx hb d_W_law_753 (by decide) ?_
    refine W.widen (k := cells + 6) (n := slots + 40) (by omega) (by omega) ?_
    exact kk H locs ls ⟨u9.1, u8, α, ad, v, od, ro, bs, se, wr, kn, z, 0, n, ka, rn, sn, f, u9.2, rfl, hα, had, hcp2, hmp2, hrl, ho, hM, hMM, dj_sym hdj⟩ hS (lv_sub hl [2, 3, 4, 5, 6] rfl)
  · have hcp2 := hne hC
    have hmp2 := hpost.1 hC
    have hgt : ¬ nI (gT 1 (gC (if ¬ x1 < 0 ∧ x1 < nI n then 1 else 0) 1 1 1)) = 0 := by
      rcases gC_cases (if ¬ x1 < 0 ∧ x1 < nI n then 1 else 0) 1 1 1 with hcc | hcc | hcc | hcc | hcc
      · exact absurd hcc hC
      · rw [hcc.2]; decide
      · exact absurd hcc.1 (by decide)
      · exact absurd hcc.1 (by decide)
      · exact absurd hcc.1 (by decide)
    refine lv_istore (lv' := [(6, .int r0), (5, .int (nI (gT 1 (gC (if ¬ x1 < 0 ∧ x1 < nI n then 1 else 0) 1 1 1)))), (0, .ref b), (1, .ref (α 0)), (2, .ref mm), (3, .ref o), (4, .int (nI i))]) hx hb d_W_law_723 hl (by decide) rfl (fun ls hl => ?_)
    refine lv_aload_n hx hb d_W_law_725 rfl (lv_at hl 4 rfl) ?_
    refine vp_callSi (W.runV (As := []) (rest := []) ⟨hx, hb, hml, hown, hta⟩ (k_M_thrown l G _ _ cI _ u8 had hmp2) (cV 0 hta aw_611 aw_5 aw_608 aw_609 aw_610 rfl rfl (by decide +kernel) ⟨Nat.le_of_ble_eq_true rfl, Nat.le_of_ble_eq_true rfl⟩) (pW_V hK hMM rfl hmp2.1) rfl rfl hl.1 rfl (lv_room (Nat.le_of_ble_eq_true rfl)) d_W_law_726 ⟨(show _ ≤ 601024 by omega), (show _ ≤ 7293034 by omega)⟩) (fun t_101 ht_101 => ?_)
    subst ht_101
    refine lv_iload hx hb d_W_law_729 (lv_at hl 1 rfl) ?_
    refine lv_icmp_eq (tgt := 736) hx hb d_W_law_731 (by decide) (fun c_102 => ?_) (fun c_102 => absurd rfl c_102)
    refine lv_iload hx hb d_W_law_736 (lv_at hl 1 rfl) ?_
    refine lv_if_ne (tgt := 753) hx hb d_W_law_738 (by decide) (fun c_103 => ?_) (fun c_103 => absurd c_103 hgt)
    refine lv_goto (tgt := 1036) hx hb d_W_law_753 (by decide) ?_
    refine W.widen (k := cells + 6) (n := slots + 40) (by omega) (by omega) ?_
    exact kk H locs ls ⟨u9.1, u8, α, ad, v, od, ro, bs, se, wr, kn, z, (nI (gT 1 (gC (if ¬ x1 < 0 ∧ x1 < nI n then 1 else 0) 1 1 1))), n, ka, rn, sn, f, u9.2, rfl, hα, had, hcp2, hmp2, hrl, ho, hM, hMM, dj_sym hdj⟩ hS (lv_sub hl [2, 3, 4, 5, 6] rfl)
set_option maxHeartbeats 4000000 in
set_option maxRecDepth 100000 in
theorem arm_noteAt (l : Launch) (hlt : l.stackTraces = false) {p : Program} {e : Env} {s : State} {m : MethodId} {below : List Frame} {meth : Method} {c : Code} {b L : Nat} {xs : Nat → Int32} (hx : p.tables.exec = Jvm.exec) (hb : c.code = c_W_law) (hml : c.maxLocals = 7) (hown : s.vm.findClass nR_W = some m.cls) (hta : ∀ w ∈ AL, w.before #[Value.ref b] s = true) (hX : va_X b L xs s s.heap) (hbl : b < s.heap.size) (hL : L ≤ 3072) (G : va_G) (cN cB cI cJ : ClassId) (hK : va_K G ncl [(cN, .object nR_N), (cB, .byte), (cI, .int), (cJ, .long)] s) (hE0 : xEA s) (hN : xN s) {x mm o i : Nat} (hi : i + 6 ≤ L) {H : Heap} {locs : List Loc} {cells slots : Nat} {Q : State → Prop} (hcb : cells + 6 ≤ 601024) (hsb : slots + 40 ≤ 7293034) {ls : Array Slot} (hLI : LI G cN cB cI cJ x mm o (fun q => s.heap.size ≤ q) H) (hS : va_S (fun q => s.heap.size ≤ q) s.heap H locs) (hl : lv_has ls 7 [(0, .ref b), (1, .ref x), (2, .ref mm), (3, .ref o), (4, .int (nI i))]) (kk : ∀ (H : Heap) (locs : List Loc) (ls : Array Slot), LI G cN cB cI cJ x mm o (fun q => s.heap.size ≤ q) H → va_S (fun q => s.heap.size ≤ q) s.heap H locs → lv_has ls 7 [(0, .ref b), (1, .ref x), (2, .ref mm), (3, .ref o), (4, .int (nI i))] → W p l e room_1 s m #[Value.ref b] below meth c H locs (cells + 6) (slots + 40) Q (F0 m 1036 ls [])) : W p l e room_1 s m #[Value.ref b] below meth c H locs cells slots Q (F0 m 756 ls []) := by
  obtain ⟨w, wM, α, ad, v, od, ro, bs, se, wr, kn, z, th, n, ka, rn, sn, f, g, rfl, hα, had, hcp, hmp, hrl, ho, hM, hMM, hdj⟩ := hLI
  obtain ⟨x1, ex1⟩ : ∃ z9 : Int32, xs (nI i + 1).toNatClampNeg = z9 := ⟨_, rfl⟩
  obtain ⟨x2, ex2⟩ : ∃ z9 : Int32, xs (nI i + 2).toNatClampNeg = z9 := ⟨_, rfl⟩
  obtain ⟨x3, ex3⟩ : ∃ z9 : Int32, xs (nI i + 3).toNatClampNeg = z9 := ⟨_, rfl⟩
  obtain ⟨x4, ex4⟩ : ∃ z9 : Int32, xs (nI i + 4).toNatClampNeg = z9 := ⟨_, rfl⟩
  obtain ⟨x5, ex5⟩ : ∃ z9 : Int32, xs (nI i + 5).toNatClampNeg = z9 := ⟨_, rfl⟩
  refine lv_aload_n hx hb d_W_law_756 rfl (lv_at hl 1 rfl) ?_
  refine lv_aload_n hx hb d_W_law_757 rfl (lv_at hl 0 rfl) ?_
  refine lv_iload hx hb d_W_law_758 (lv_at hl 4 rfl) ?_
  refine lv_iconst (v := 1) hx hb d_W_law_760 (by decide) ?_
  refine lv_iadd hx hb d_W_law_761 ?_
  refine va_sld hx hb hX hbl (Nat.not_le.mpr hbl) hS (sc_in (k := 1) (by omega) (by omega)) d_W_law_762 ?_
  rw [ex1]
  refine lv_aload_n hx hb d_W_law_763 rfl (lv_at hl 0 rfl) ?_
  refine lv_iload hx hb d_W_law_764 (lv_at hl 4 rfl) ?_
  refine lv_iconst (v := 2) hx hb d_W_law_766 (by decide) ?_
  refine lv_iadd hx hb d_W_law_767 ?_
  refine va_sld hx hb hX hbl (Nat.not_le.mpr hbl) hS (sc_in (k := 2) (by omega) (by omega)) d_W_law_768 ?_
  rw [ex2]
  refine lv_aload_n hx hb d_W_law_769 rfl (lv_at hl 3 rfl) ?_
  have hF := mw_free hM hS (fun q h => h)
  refine va_calli (vx_runSW (As := [.ref (α 0), .int x1, .int x2, .ref o]) (rest := []) ⟨hx, hb, hml, hown, hta⟩ (k_W_noteAt l hlt G cN cB cI cJ [] w hα hcp (rl_cok hrl) ho g x1 x2 _) (cSW 4 hta aw_470 aw_0 aw_468 aw_469 rfl rfl (by decide +kernel) ⟨Nat.le_of_ble_eq_true rfl, Nat.le_of_ble_eq_true rfl⟩) (pV_S hK hM (xEA_at hE0 hS) hN) rfl rfl hl.1 rfl (lv_room (Nat.le_of_ble_eq_true rfl)) d_W_law_770 ⟨(show _ ≤ 601024 by omega), (show _ ≤ 7293034 by omega)⟩) hS (fun q _ h => hF q h) hF (fun k0 u9 t H locs ht hvm hpost hB hz1 hk1 hS => ?_)
  obtain ⟨hM1, hK1⟩ := hB
  rw [ht] at hM1
  obtain ⟨hM, hMM, hdj⟩ := mw_pair hMM hdj hM1 hk1 hF
  clear hM1 hK1 hF hk1 hz1
  obtain ⟨ho, hk0, hne, hze⟩ := hpost
  subst hk0
  refine lv_istore (lv' := [(5, .int (nI (gT 1 (gC (if (¬ x1 < 0 ∧ x1 < nI n) ∧ (¬ x2 < 0 ∧ ¬ 4 < x2) then 1 else 0) 1 1 1)))), (0, .ref b), (1, .ref (α 0)), (2, .ref mm), (3, .ref o), (4, .int (nI i))]) hx hb d_W_law_773 hl (by decide) rfl (fun ls hl => ?_)
  refine lv_aload_n hx hb d_W_law_775 rfl (lv_at hl 3 rfl) ?_
  refine lv_aload_n hx hb d_W_law_776 rfl (lv_at hl 1 rfl) ?_
  refine lv_iload hx hb d_W_law_777 (lv_at hl 5 rfl) ?_
  refine lv_iconst (v := 1) hx hb d_W_law_779 (by decide) ?_
  refine lv_iadd hx hb d_W_law_780 ?_
  refine va_sld hx hb hX hbl (Nat.not_le.mpr hbl) hS (sc_in (k := 1) (by omega) (by omega)) d_W_law_781 ?_
  rw [ex1]
  refine lv_aload_n hx hb d_W_law_782 rfl (lv_at hl 1 rfl) ?_
  refine lv_iload hx hb d_W_law_783 (lv_at hl 5 rfl) ?_
  refine lv_iconst (v := 2) hx hb d_W_law_785 (by decide) ?_
  refine lv_iadd hx hb d_W_law_786 ?_
  refine va_sld hx hb hX hbl (Nat.not_le.mpr hbl) hS (sc_in (k := 2) (by omega) (by omega)) d_W_law_787 ?_
  rw [ex2]
  have hF := mw_free hMM hS (fun q h => h)
  refine va_calli (va_runV (As := [.int x1, .int x2]) (rest := []) ⟨hx, hb, hml, hown, hta⟩ (k_M_noteAt l G _ _ cI _ wM had hmp hrl.1.2.1 rfl hrl.1.1 rfl x1 x2  _) (cV 2 hta aw_697 aw_5 aw_694 aw_695 aw_696 rfl rfl (by decide +kernel) ⟨Nat.le_of_ble_eq_true rfl, Nat.le_of_ble_eq_true rfl⟩) (pZ_V hK hMM rfl hmp.1) rfl rfl hl.1 rfl (lv_room (Nat.le_of_ble_eq_true rfl)) d_W_law_788 ⟨(show _ ≤ 601024 by omega), (show _ ≤ 7293034 by omega)⟩) hS (fun q _ h => hF q h) hF (fun r0 u8 t H locs ht hvm hpost hB hz1 hk1 hS => ?_)
  obtain ⟨hM1, hK1⟩ := hB
  rw [ht] at hM1
  obtain ⟨hMM, hM, hdj⟩ := mw_pair hM (dj_sym hdj) hM1 hk1 hF
  clear hM1 hK1 hF hk1 hz1
  rw [← cd_noteAt hrl x1 x2] at hpost
  by_cases hC : gC (if (¬ x1 < 0 ∧ x1 < nI n) ∧ (¬ x2 < 0 ∧ ¬ 4 < x2) then 1 else 0) 1 1 1 = 0
  · obtain ⟨r, hr1, hra, hcp2⟩ := hze hC
    obtain ⟨hr0, hmp2⟩ := hpost.2 hC
    have hrr : r = r0 := by rw [hra, hr0]; exact an_noteAt hrl hC
    have hcmp : lg_cmp (u9.2 (0 : Int32).toNatClampNeg) r0.toInt64 = 0 := by rw [show u9.2 (0 : Int32).toNatClampNeg = r.toInt64 from hr1, hrr]; exact cmp_self _
    refine lv_istore (lv' := [(6, .int r0), (5, .int (nI (gT 1 (gC (if (¬ x1 < 0 ∧ x1 < nI n) ∧ (¬ x2 < 0 ∧ ¬ 4 < x2) then 1 else 0) 1 1 1)))), (0, .ref b), (1, .ref (α 0)), (2, .ref mm), (3, .ref o), (4, .int (nI i))]) hx hb d_W_law_791 hl (by decide) rfl (fun ls hl => ?_)
    refine lv_aload_n hx hb d_W_law_793 rfl (lv_at hl 4 rfl) ?_
    refine vp_callSi (W.runV (As := []) (rest := []) ⟨hx, hb, hml, hown, hta⟩ (k_M_thrown l G _ _ cI _ u8 had hmp2) (cV 0 hta aw_611 aw_5 aw_608 aw_609 aw_610 rfl rfl (by decide +kernel) ⟨Nat.le_of_ble_eq_true rfl, Nat.le_of_ble_eq_true rfl⟩) (pW_V hK hMM rfl hmp2.1) rfl rfl hl.1 rfl (lv_room (Nat.le_of_ble_eq_true rfl)) d_W_law_794 ⟨(show _ ≤ 601024 by omega), (show _ ≤ 7293034 by omega)⟩) (fun t_101 ht_101 => ?_)
    subst ht_101
    refine lv_iload hx hb d_W_law_797 (lv_at hl 1 rfl) ?_
    refine lv_icmp_eq (tgt := 804) hx hb d_W_law_799 (by decide) (fun c_102 => ?_) (fun c_102 => absurd (show nI (gT 1 (gC (if (¬ x1 < 0 ∧ x1 < nI n) ∧ (¬ x2 < 0 ∧ ¬ 4 < x2) then 1 else 0) 1 1 1)) = 0 by rw [hC]; rfl).symm c_102)
    refine lv_iload hx hb d_W_law_804 (lv_at hl 1 rfl) ?_
    refine lv_if_ne (tgt := 821) hx hb d_W_law_806 (by decide) (fun c_103 => absurd (show nI (gT 1 (gC (if (¬ x1 < 0 ∧ x1 < nI n) ∧ (¬ x2 < 0 ∧ ¬ 4 < x2) then 1 else 0) 1 1 1)) = 0 by rw [hC]; rfl) c_103) (fun c_103 => ?_)
    refine lv_aload_n hx hb d_W_law_809 rfl (lv_at hl 5 rfl) ?_
    refine lv_iconst (v := 0) hx hb d_W_law_810 (by decide) ?_
    refine m_lald hx hb hK hM 3 (va_up_self u9.1 o (some (aJ cJ 1 u9.2))) rfl (vp_in_nI (n := 0) (by decide) (by decide)) d_W_law_811 ?_
    refine lv_iload hx hb d_W_law_812 (lv_at hl 0 rfl) ?_
    refine lv_i2l hx hb d_W_law_814 rfl ?_
    refine W.lcmp hx hb d_W_law_815 ?_
    rw [hcmp]
    refine lv_if_eq (tgt := 821) hx hb d_W_law_816 (by decide) (fun c_104 => ?_) (fun c_104 => absurd (by decide) c_104)
    refine lv_goto (tgt := 1036) hx hb d_W_law_821 (by decide) ?_
    refine W.widen (k := cells + 6) (n := slots + 40) (by omega) (by omega) ?_
    exact kk H locs ls ⟨u9.1, u8, α, ad, v, od, ro, bs, se, wr, kn, z, 0, n, ka, rn, sn, f, u9.2, rfl, hα, had, hcp2, hmp2, hrl, ho, hM, hMM, dj_sym hdj⟩ hS (lv_sub hl [2, 3, 4, 5, 6] rfl)
  · have hcp2 := hne hC
    have hmp2 := hpost.1 hC
    have hgt : ¬ nI (gT 1 (gC (if (¬ x1 < 0 ∧ x1 < nI n) ∧ (¬ x2 < 0 ∧ ¬ 4 < x2) then 1 else 0) 1 1 1)) = 0 := by
      rcases gC_cases (if (¬ x1 < 0 ∧ x1 < nI n) ∧ (¬ x2 < 0 ∧ ¬ 4 < x2) then 1 else 0) 1 1 1 with hcc | hcc | hcc | hcc | hcc
      · exact absurd hcc hC
      · rw [hcc.2]; decide
      · exact absurd hcc.1 (by decide)
      · exact absurd hcc.1 (by decide)
      · exact absurd hcc.1 (by decide)
    refine lv_istore (lv' := [(6, .int r0), (5, .int (nI (gT 1 (gC (if (¬ x1 < 0 ∧ x1 < nI n) ∧ (¬ x2 < 0 ∧ ¬ 4 < x2) then 1 else 0) 1 1 1)))), (0, .ref b), (1, .ref (α 0)), (2, .ref mm), (3, .ref o), (4, .int (nI i))]) hx hb d_W_law_791 hl (by decide) rfl (fun ls hl => ?_)
    refine lv_aload_n hx hb d_W_law_793 rfl (lv_at hl 4 rfl) ?_
    refine vp_callSi (W.runV (As := []) (rest := []) ⟨hx, hb, hml, hown, hta⟩ (k_M_thrown l G _ _ cI _ u8 had hmp2) (cV 0 hta aw_611 aw_5 aw_608 aw_609 aw_610 rfl rfl (by decide +kernel) ⟨Nat.le_of_ble_eq_true rfl, Nat.le_of_ble_eq_true rfl⟩) (pW_V hK hMM rfl hmp2.1) rfl rfl hl.1 rfl (lv_room (Nat.le_of_ble_eq_true rfl)) d_W_law_794 ⟨(show _ ≤ 601024 by omega), (show _ ≤ 7293034 by omega)⟩) (fun t_101 ht_101 => ?_)
    subst ht_101
    refine lv_iload hx hb d_W_law_797 (lv_at hl 1 rfl) ?_
    refine lv_icmp_eq (tgt := 804) hx hb d_W_law_799 (by decide) (fun c_102 => ?_) (fun c_102 => absurd rfl c_102)
    refine lv_iload hx hb d_W_law_804 (lv_at hl 1 rfl) ?_
    refine lv_if_ne (tgt := 821) hx hb d_W_law_806 (by decide) (fun c_103 => ?_) (fun c_103 => absurd c_103 hgt)
    refine lv_goto (tgt := 1036) hx hb d_W_law_821 (by decide) ?_
    refine W.widen (k := cells + 6) (n := slots + 40) (by omega) (by omega) ?_
    exact kk H locs ls ⟨u9.1, u8, α, ad, v, od, ro, bs, se, wr, kn, z, (nI (gT 1 (gC (if (¬ x1 < 0 ∧ x1 < nI n) ∧ (¬ x2 < 0 ∧ ¬ 4 < x2) then 1 else 0) 1 1 1))), n, ka, rn, sn, f, u9.2, rfl, hα, had, hcp2, hmp2, hrl, ho, hM, hMM, dj_sym hdj⟩ hS (lv_sub hl [2, 3, 4, 5, 6] rfl)
set_option maxHeartbeats 4000000 in
set_option maxRecDepth 100000 in
theorem arm_print (l : Launch) (hlt : l.stackTraces = false) {p : Program} {e : Env} {s : State} {m : MethodId} {below : List Frame} {meth : Method} {c : Code} {b L : Nat} {xs : Nat → Int32} (hx : p.tables.exec = Jvm.exec) (hb : c.code = c_W_law) (hml : c.maxLocals = 7) (hown : s.vm.findClass nR_W = some m.cls) (hta : ∀ w ∈ AL, w.before #[Value.ref b] s = true) (hX : va_X b L xs s s.heap) (hbl : b < s.heap.size) (hL : L ≤ 3072) (G : va_G) (cN cB cI cJ : ClassId) (hK : va_K G ncl [(cN, .object nR_N), (cB, .byte), (cI, .int), (cJ, .long)] s) (hE0 : xEA s) (hN : xN s) {x mm o i : Nat} (hi : i + 6 ≤ L) {H : Heap} {locs : List Loc} {cells slots : Nat} {Q : State → Prop} (hcb : cells + 6 ≤ 601024) (hsb : slots + 40 ≤ 7293034) {ls : Array Slot} (hLI : LI G cN cB cI cJ x mm o (fun q => s.heap.size ≤ q) H) (hS : va_S (fun q => s.heap.size ≤ q) s.heap H locs) (hl : lv_has ls 7 [(0, .ref b), (1, .ref x), (2, .ref mm), (3, .ref o), (4, .int (nI i))]) (kk : ∀ (H : Heap) (locs : List Loc) (ls : Array Slot), LI G cN cB cI cJ x mm o (fun q => s.heap.size ≤ q) H → va_S (fun q => s.heap.size ≤ q) s.heap H locs → lv_has ls 7 [(0, .ref b), (1, .ref x), (2, .ref mm), (3, .ref o), (4, .int (nI i))] → W p l e room_1 s m #[Value.ref b] below meth c H locs (cells + 6) (slots + 40) Q (F0 m 1036 ls [])) : W p l e room_1 s m #[Value.ref b] below meth c H locs cells slots Q (F0 m 824 ls []) := by
  obtain ⟨w, wM, α, ad, v, od, ro, bs, se, wr, kn, z, th, n, ka, rn, sn, f, g, rfl, hα, had, hcp, hmp, hrl, ho, hM, hMM, hdj⟩ := hLI
  obtain ⟨x1, ex1⟩ : ∃ z9 : Int32, xs (nI i + 1).toNatClampNeg = z9 := ⟨_, rfl⟩
  obtain ⟨x2, ex2⟩ : ∃ z9 : Int32, xs (nI i + 2).toNatClampNeg = z9 := ⟨_, rfl⟩
  obtain ⟨x3, ex3⟩ : ∃ z9 : Int32, xs (nI i + 3).toNatClampNeg = z9 := ⟨_, rfl⟩
  obtain ⟨x4, ex4⟩ : ∃ z9 : Int32, xs (nI i + 4).toNatClampNeg = z9 := ⟨_, rfl⟩
  obtain ⟨x5, ex5⟩ : ∃ z9 : Int32, xs (nI i + 5).toNatClampNeg = z9 := ⟨_, rfl⟩
  refine lv_aload_n hx hb d_W_law_824 rfl (lv_at hl 1 rfl) ?_
  refine lv_aload_n hx hb d_W_law_825 rfl (lv_at hl 3 rfl) ?_
  have hF := mw_free hM hS (fun q h => h)
  refine va_calli (vx_runSW (As := [.ref (α 0), .ref o]) (rest := []) ⟨hx, hb, hml, hown, hta⟩ (k_W_print l hlt G cN cB cI cJ [] w hα hcp (rl_cok hrl) ho g  (fun i hi => (row_ok hrl kn hi).1) (sht_len hrl kn) _) (cSW 2 hta aw_477 aw_0 aw_475 aw_476 rfl rfl (by decide +kernel) ⟨Nat.le_of_ble_eq_true rfl, Nat.le_of_ble_eq_true rfl⟩) (pV_S hK hM (xEA_at hE0 hS) hN) rfl rfl hl.1 rfl (lv_room (Nat.le_of_ble_eq_true rfl)) d_W_law_826 ⟨(show _ ≤ 601024 by omega), (show _ ≤ 7293034 by omega)⟩) hS (fun q _ h => hF q h) hF (fun k0 u9 t H locs ht hvm hpost hB hz1 hk1 hS => ?_)
  obtain ⟨hM1, hK1⟩ := hB
  rw [ht] at hM1
  obtain ⟨hM, hMM, hdj⟩ := mw_pair hMM hdj hM1 hk1 hF
  clear hM1 hK1 hF hk1 hz1
  obtain ⟨ho, hk0, hne, hze⟩ := hpost
  subst hk0
  refine lv_istore (lv' := [(5, .int (nI (gT 4 (gC 1 1 (if z = 0 then 0 else 1) 1)))), (0, .ref b), (1, .ref (α 0)), (2, .ref mm), (3, .ref o), (4, .int (nI i))]) hx hb d_W_law_829 hl (by decide) rfl (fun ls hl => ?_)
  refine lv_aload_n hx hb d_W_law_831 rfl (lv_at hl 3 rfl) ?_
  have hF := mw_free hMM hS (fun q h => h)
  refine va_calli (va_runV (As := []) (rest := []) ⟨hx, hb, hml, hown, hta⟩ (k_M_print l G _ _ cI _ wM had hmp hrl.1.2.1 rfl hrl.1.2.2.1 rfl (rl_hrn hrl) (rl_hrg hrl kn) (by rw [sht_eq hrl]; exact Nat.le_trans (sht_len hrl kn) (by decide))   _) (cV 0 hta aw_701 aw_5 aw_698 aw_699 aw_700 rfl rfl (by decide +kernel) ⟨Nat.le_of_ble_eq_true rfl, Nat.le_of_ble_eq_true rfl⟩) (pZ_V hK hMM rfl hmp.1) rfl rfl hl.1 rfl (lv_room (Nat.le_of_ble_eq_true rfl)) d_W_law_832 ⟨(show _ ≤ 601024 by omega), (show _ ≤ 7293034 by omega)⟩) hS (fun q _ h => hF q h) hF (fun r0 u8 t H locs ht hvm hpost hB hz1 hk1 hS => ?_)
  obtain ⟨hM1, hK1⟩ := hB
  rw [ht] at hM1
  obtain ⟨hMM, hM, hdj⟩ := mw_pair hM (dj_sym hdj) hM1 hk1 hF
  clear hM1 hK1 hF hk1 hz1
  rw [← cd_print hrl] at hpost
  by_cases hC : gC 1 1 (if z = 0 then 0 else 1) 1 = 0
  · obtain ⟨r, hr1, hra, hcp2⟩ := hze hC
    obtain ⟨hr0, hmp2⟩ := hpost.2 hC
    have hrr : r = r0 := by rw [hra, hr0, sht_eq hrl]
    have hcmp : lg_cmp (u9.2 (0 : Int32).toNatClampNeg) r0.toInt64 = 0 := by rw [show u9.2 (0 : Int32).toNatClampNeg = r.toInt64 from hr1, hrr]; exact cmp_self _
    refine lv_istore (lv' := [(6, .int r0), (5, .int (nI (gT 4 (gC 1 1 (if z = 0 then 0 else 1) 1)))), (0, .ref b), (1, .ref (α 0)), (2, .ref mm), (3, .ref o), (4, .int (nI i))]) hx hb d_W_law_835 hl (by decide) rfl (fun ls hl => ?_)
    refine lv_aload_n hx hb d_W_law_837 rfl (lv_at hl 4 rfl) ?_
    refine vp_callSi (W.runV (As := []) (rest := []) ⟨hx, hb, hml, hown, hta⟩ (k_M_thrown l G _ _ cI _ u8 had hmp2) (cV 0 hta aw_611 aw_5 aw_608 aw_609 aw_610 rfl rfl (by decide +kernel) ⟨Nat.le_of_ble_eq_true rfl, Nat.le_of_ble_eq_true rfl⟩) (pW_V hK hMM rfl hmp2.1) rfl rfl hl.1 rfl (lv_room (Nat.le_of_ble_eq_true rfl)) d_W_law_838 ⟨(show _ ≤ 601024 by omega), (show _ ≤ 7293034 by omega)⟩) (fun t_101 ht_101 => ?_)
    subst ht_101
    refine lv_iload hx hb d_W_law_841 (lv_at hl 1 rfl) ?_
    refine lv_icmp_eq (tgt := 848) hx hb d_W_law_843 (by decide) (fun c_102 => ?_) (fun c_102 => absurd (show nI (gT 4 (gC 1 1 (if z = 0 then 0 else 1) 1)) = 0 by rw [hC]; rfl).symm c_102)
    refine lv_iload hx hb d_W_law_848 (lv_at hl 1 rfl) ?_
    refine lv_if_ne (tgt := 865) hx hb d_W_law_850 (by decide) (fun c_103 => absurd (show nI (gT 4 (gC 1 1 (if z = 0 then 0 else 1) 1)) = 0 by rw [hC]; rfl) c_103) (fun c_103 => ?_)
    refine lv_aload_n hx hb d_W_law_853 rfl (lv_at hl 5 rfl) ?_
    refine lv_iconst (v := 0) hx hb d_W_law_854 (by decide) ?_
    refine m_lald hx hb hK hM 3 (va_up_self u9.1 o (some (aJ cJ 1 u9.2))) rfl (vp_in_nI (n := 0) (by decide) (by decide)) d_W_law_855 ?_
    refine lv_iload hx hb d_W_law_856 (lv_at hl 0 rfl) ?_
    refine lv_i2l hx hb d_W_law_858 rfl ?_
    refine W.lcmp hx hb d_W_law_859 ?_
    rw [hcmp]
    refine lv_if_eq (tgt := 865) hx hb d_W_law_860 (by decide) (fun c_104 => ?_) (fun c_104 => absurd (by decide) c_104)
    refine lv_goto (tgt := 1036) hx hb d_W_law_865 (by decide) ?_
    refine W.widen (k := cells + 6) (n := slots + 40) (by omega) (by omega) ?_
    exact kk H locs ls ⟨u9.1, u8, α, ad, v, od, ro, (apF bs 0 (shtC (fun i => v (ro i)) kn rn)), se, wr, kn, z, 0, n, ka, rn, (shtC (fun i => v (ro i)) kn rn).length, (va_up f 11 (apF (f 11) 0 (shtB f kn ka rn))), u9.2, rfl, hα, had, hcp2, (by have z9 := hmp2; rw [show (shtB f kn ka rn).length = (shtC (fun i => v (ro i)) kn rn).length from congrArg List.length (sht_eq hrl kn)] at z9; exact z9), nx_print hrl kn, ho, hM, hMM, dj_sym hdj⟩ hS (lv_sub hl [2, 3, 4, 5, 6] rfl)
  · have hcp2 := hne hC
    have hmp2 := hpost.1 hC
    have hgt : ¬ nI (gT 4 (gC 1 1 (if z = 0 then 0 else 1) 1)) = 0 := by
      rcases gC_cases 1 1 (if z = 0 then 0 else 1) 1 with hcc | hcc | hcc | hcc | hcc
      · exact absurd hcc hC
      · exact absurd hcc.1 (by decide)
      · exact absurd hcc.1 (by decide)
      · rw [hcc.2]; decide
      · exact absurd hcc.1 (by decide)
    refine lv_istore (lv' := [(6, .int r0), (5, .int (nI (gT 4 (gC 1 1 (if z = 0 then 0 else 1) 1)))), (0, .ref b), (1, .ref (α 0)), (2, .ref mm), (3, .ref o), (4, .int (nI i))]) hx hb d_W_law_835 hl (by decide) rfl (fun ls hl => ?_)
    refine lv_aload_n hx hb d_W_law_837 rfl (lv_at hl 4 rfl) ?_
    refine vp_callSi (W.runV (As := []) (rest := []) ⟨hx, hb, hml, hown, hta⟩ (k_M_thrown l G _ _ cI _ u8 had hmp2) (cV 0 hta aw_611 aw_5 aw_608 aw_609 aw_610 rfl rfl (by decide +kernel) ⟨Nat.le_of_ble_eq_true rfl, Nat.le_of_ble_eq_true rfl⟩) (pW_V hK hMM rfl hmp2.1) rfl rfl hl.1 rfl (lv_room (Nat.le_of_ble_eq_true rfl)) d_W_law_838 ⟨(show _ ≤ 601024 by omega), (show _ ≤ 7293034 by omega)⟩) (fun t_101 ht_101 => ?_)
    subst ht_101
    refine lv_iload hx hb d_W_law_841 (lv_at hl 1 rfl) ?_
    refine lv_icmp_eq (tgt := 848) hx hb d_W_law_843 (by decide) (fun c_102 => ?_) (fun c_102 => absurd rfl c_102)
    refine lv_iload hx hb d_W_law_848 (lv_at hl 1 rfl) ?_
    refine lv_if_ne (tgt := 865) hx hb d_W_law_850 (by decide) (fun c_103 => ?_) (fun c_103 => absurd c_103 hgt)
    refine lv_goto (tgt := 1036) hx hb d_W_law_865 (by decide) ?_
    refine W.widen (k := cells + 6) (n := slots + 40) (by omega) (by omega) ?_
    exact kk H locs ls ⟨u9.1, u8, α, ad, v, od, ro, bs, se, wr, kn, z, (nI (gT 4 (gC 1 1 (if z = 0 then 0 else 1) 1))), n, ka, rn, sn, f, u9.2, rfl, hα, had, hcp2, hmp2, hrl, ho, hM, hMM, dj_sym hdj⟩ hS (lv_sub hl [2, 3, 4, 5, 6] rfl)
set_option maxHeartbeats 4000000 in
set_option maxRecDepth 100000 in
theorem arm_at (l : Launch) (hlt : l.stackTraces = false) {p : Program} {e : Env} {s : State} {m : MethodId} {below : List Frame} {meth : Method} {c : Code} {b L : Nat} {xs : Nat → Int32} (hx : p.tables.exec = Jvm.exec) (hb : c.code = c_W_law) (hml : c.maxLocals = 7) (hown : s.vm.findClass nR_W = some m.cls) (hta : ∀ w ∈ AL, w.before #[Value.ref b] s = true) (hX : va_X b L xs s s.heap) (hbl : b < s.heap.size) (hL : L ≤ 3072) (G : va_G) (cN cB cI cJ : ClassId) (hK : va_K G ncl [(cN, .object nR_N), (cB, .byte), (cI, .int), (cJ, .long)] s) (hE0 : xEA s) (hN : xN s) {x mm o i : Nat} (hi : i + 6 ≤ L) {H : Heap} {locs : List Loc} {cells slots : Nat} {Q : State → Prop} (hcb : cells + 6 ≤ 601024) (hsb : slots + 40 ≤ 7293034) {ls : Array Slot} (hLI : LI G cN cB cI cJ x mm o (fun q => s.heap.size ≤ q) H) (hS : va_S (fun q => s.heap.size ≤ q) s.heap H locs) (hl : lv_has ls 7 [(0, .ref b), (1, .ref x), (2, .ref mm), (3, .ref o), (4, .int (nI i))]) (kk : ∀ (H : Heap) (locs : List Loc) (ls : Array Slot), LI G cN cB cI cJ x mm o (fun q => s.heap.size ≤ q) H → va_S (fun q => s.heap.size ≤ q) s.heap H locs → lv_has ls 7 [(0, .ref b), (1, .ref x), (2, .ref mm), (3, .ref o), (4, .int (nI i))] → W p l e room_1 s m #[Value.ref b] below meth c H locs (cells + 6) (slots + 40) Q (F0 m 1036 ls [])) : W p l e room_1 s m #[Value.ref b] below meth c H locs cells slots Q (F0 m 868 ls []) := by
  obtain ⟨w, wM, α, ad, v, od, ro, bs, se, wr, kn, z, th, n, ka, rn, sn, f, g, rfl, hα, had, hcp, hmp, hrl, ho, hM, hMM, hdj⟩ := hLI
  obtain ⟨x1, ex1⟩ : ∃ z9 : Int32, xs (nI i + 1).toNatClampNeg = z9 := ⟨_, rfl⟩
  obtain ⟨x2, ex2⟩ : ∃ z9 : Int32, xs (nI i + 2).toNatClampNeg = z9 := ⟨_, rfl⟩
  obtain ⟨x3, ex3⟩ : ∃ z9 : Int32, xs (nI i + 3).toNatClampNeg = z9 := ⟨_, rfl⟩
  obtain ⟨x4, ex4⟩ : ∃ z9 : Int32, xs (nI i + 4).toNatClampNeg = z9 := ⟨_, rfl⟩
  obtain ⟨x5, ex5⟩ : ∃ z9 : Int32, xs (nI i + 5).toNatClampNeg = z9 := ⟨_, rfl⟩
  refine lv_aload_n hx hb d_W_law_868 rfl (lv_at hl 1 rfl) ?_
  refine lv_aload_n hx hb d_W_law_869 rfl (lv_at hl 0 rfl) ?_
  refine lv_iload hx hb d_W_law_870 (lv_at hl 4 rfl) ?_
  refine lv_iconst (v := 1) hx hb d_W_law_872 (by decide) ?_
  refine lv_iadd hx hb d_W_law_873 ?_
  refine va_sld hx hb hX hbl (Nat.not_le.mpr hbl) hS (sc_in (k := 1) (by omega) (by omega)) d_W_law_874 ?_
  rw [ex1]
  refine lv_aload_n hx hb d_W_law_875 rfl (lv_at hl 3 rfl) ?_
  have hF := mw_free hM hS (fun q h => h)
  refine va_calli (vx_runSW (As := [.ref (α 0), .int x1, .ref o]) (rest := []) ⟨hx, hb, hml, hown, hta⟩ (k_W_at l hlt G cN cB cI cJ [] w hα hcp (rl_cok hrl) ho g x1 _) (cSW 3 hta aw_508 aw_0 aw_506 aw_507 rfl rfl (by decide +kernel) ⟨Nat.le_of_ble_eq_true rfl, Nat.le_of_ble_eq_true rfl⟩) (pV_S hK hM (xEA_at hE0 hS) hN) rfl rfl hl.1 rfl (lv_room (Nat.le_of_ble_eq_true rfl)) d_W_law_876 ⟨(show _ ≤ 601024 by omega), (show _ ≤ 7293034 by omega)⟩) hS (fun q _ h => hF q h) hF (fun k0 u9 t H locs ht hvm hpost hB hz1 hk1 hS => ?_)
  obtain ⟨hM1, hK1⟩ := hB
  rw [ht] at hM1
  obtain ⟨hM, hMM, hdj⟩ := mw_pair hMM hdj hM1 hk1 hF
  clear hM1 hK1 hF hk1 hz1
  obtain ⟨ho, hk0, hne, hze⟩ := hpost
  subst hk0
  refine lv_istore (lv' := [(5, .int (nI (gT 2 (gC 1 (if 0 ≤ x1 then 1 else 0) 1 1)))), (0, .ref b), (1, .ref (α 0)), (2, .ref mm), (3, .ref o), (4, .int (nI i))]) hx hb d_W_law_879 hl (by decide) rfl (fun ls hl => ?_)
  refine lv_aload_n hx hb d_W_law_881 rfl (lv_at hl 3 rfl) ?_
  refine lv_aload_n hx hb d_W_law_882 rfl (lv_at hl 1 rfl) ?_
  refine lv_iload hx hb d_W_law_883 (lv_at hl 5 rfl) ?_
  refine lv_iconst (v := 1) hx hb d_W_law_885 (by decide) ?_
  refine lv_iadd hx hb d_W_law_886 ?_
  refine va_sld hx hb hX hbl (Nat.not_le.mpr hbl) hS (sc_in (k := 1) (by omega) (by omega)) d_W_law_887 ?_
  rw [ex1]
  have hF := mw_free hMM hS (fun q h => h)
  refine va_calli (va_runV (As := [.int x1]) (rest := []) ⟨hx, hb, hml, hown, hta⟩ (k_M_at l G _ _ cI _ wM had hmp (show sn ≤ 2400 by have := hrl.1.2.2.2.1; omega) rfl x1  _) (cV 1 hta aw_713 aw_5 aw_710 aw_711 aw_712 rfl rfl (by decide +kernel) ⟨Nat.le_of_ble_eq_true rfl, Nat.le_of_ble_eq_true rfl⟩) (pZ_V hK hMM rfl hmp.1) rfl rfl hl.1 rfl (lv_room (Nat.le_of_ble_eq_true rfl)) d_W_law_888 ⟨(show _ ≤ 601024 by omega), (show _ ≤ 7293034 by omega)⟩) hS (fun q _ h => hF q h) hF (fun r0 u8 t H locs ht hvm hpost hB hz1 hk1 hS => ?_)
  obtain ⟨hM1, hK1⟩ := hB
  rw [ht] at hM1
  obtain ⟨hMM, hM, hdj⟩ := mw_pair hM (dj_sym hdj) hM1 hk1 hF
  clear hM1 hK1 hF hk1 hz1
  rw [← cd_at x1] at hpost
  by_cases hC : gC 1 (if 0 ≤ x1 then 1 else 0) 1 1 = 0
  · obtain ⟨r, hr1, hra, hcp2⟩ := hze hC
    obtain ⟨hr0, hmp2⟩ := hpost.2 hC
    have hrr : r = r0 := by rw [hra, hr0]; exact an_at hrl hC
    have hcmp : lg_cmp (u9.2 (0 : Int32).toNatClampNeg) r0.toInt64 = 0 := by rw [show u9.2 (0 : Int32).toNatClampNeg = r.toInt64 from hr1, hrr]; exact cmp_self _
    refine lv_istore (lv' := [(6, .int r0), (5, .int (nI (gT 2 (gC 1 (if 0 ≤ x1 then 1 else 0) 1 1)))), (0, .ref b), (1, .ref (α 0)), (2, .ref mm), (3, .ref o), (4, .int (nI i))]) hx hb d_W_law_891 hl (by decide) rfl (fun ls hl => ?_)
    refine lv_aload_n hx hb d_W_law_893 rfl (lv_at hl 4 rfl) ?_
    refine vp_callSi (W.runV (As := []) (rest := []) ⟨hx, hb, hml, hown, hta⟩ (k_M_thrown l G _ _ cI _ u8 had hmp2) (cV 0 hta aw_611 aw_5 aw_608 aw_609 aw_610 rfl rfl (by decide +kernel) ⟨Nat.le_of_ble_eq_true rfl, Nat.le_of_ble_eq_true rfl⟩) (pW_V hK hMM rfl hmp2.1) rfl rfl hl.1 rfl (lv_room (Nat.le_of_ble_eq_true rfl)) d_W_law_894 ⟨(show _ ≤ 601024 by omega), (show _ ≤ 7293034 by omega)⟩) (fun t_101 ht_101 => ?_)
    subst ht_101
    refine lv_iload hx hb d_W_law_897 (lv_at hl 1 rfl) ?_
    refine lv_icmp_eq (tgt := 904) hx hb d_W_law_899 (by decide) (fun c_102 => ?_) (fun c_102 => absurd (show nI (gT 2 (gC 1 (if 0 ≤ x1 then 1 else 0) 1 1)) = 0 by rw [hC]; rfl).symm c_102)
    refine lv_iload hx hb d_W_law_904 (lv_at hl 1 rfl) ?_
    refine lv_if_ne (tgt := 921) hx hb d_W_law_906 (by decide) (fun c_103 => absurd (show nI (gT 2 (gC 1 (if 0 ≤ x1 then 1 else 0) 1 1)) = 0 by rw [hC]; rfl) c_103) (fun c_103 => ?_)
    refine lv_aload_n hx hb d_W_law_909 rfl (lv_at hl 5 rfl) ?_
    refine lv_iconst (v := 0) hx hb d_W_law_910 (by decide) ?_
    refine m_lald hx hb hK hM 3 (va_up_self u9.1 o (some (aJ cJ 1 u9.2))) rfl (vp_in_nI (n := 0) (by decide) (by decide)) d_W_law_911 ?_
    refine lv_iload hx hb d_W_law_912 (lv_at hl 0 rfl) ?_
    refine lv_i2l hx hb d_W_law_914 rfl ?_
    refine W.lcmp hx hb d_W_law_915 ?_
    rw [hcmp]
    refine lv_if_eq (tgt := 921) hx hb d_W_law_916 (by decide) (fun c_104 => ?_) (fun c_104 => absurd (by decide) c_104)
    refine lv_goto (tgt := 1036) hx hb d_W_law_921 (by decide) ?_
    refine W.widen (k := cells + 6) (n := slots + 40) (by omega) (by omega) ?_
    exact kk H locs ls ⟨u9.1, u8, α, ad, v, od, ro, bs, se, wr, kn, z, 0, n, ka, rn, sn, f, u9.2, rfl, hα, had, hcp2, hmp2, hrl, ho, hM, hMM, dj_sym hdj⟩ hS (lv_sub hl [2, 3, 4, 5, 6] rfl)
  · have hcp2 := hne hC
    have hmp2 := hpost.1 hC
    have hgt : ¬ nI (gT 2 (gC 1 (if 0 ≤ x1 then 1 else 0) 1 1)) = 0 := by
      rcases gC_cases 1 (if 0 ≤ x1 then 1 else 0) 1 1 with hcc | hcc | hcc | hcc | hcc
      · exact absurd hcc hC
      · exact absurd hcc.1 (by decide)
      · rw [hcc.2]; decide
      · exact absurd hcc.1 (by decide)
      · exact absurd hcc.1 (by decide)
    refine lv_istore (lv' := [(6, .int r0), (5, .int (nI (gT 2 (gC 1 (if 0 ≤ x1 then 1 else 0) 1 1)))), (0, .ref b), (1, .ref (α 0)), (2, .ref mm), (3, .ref o), (4, .int (nI i))]) hx hb d_W_law_891 hl (by decide) rfl (fun ls hl => ?_)
    refine lv_aload_n hx hb d_W_law_893 rfl (lv_at hl 4 rfl) ?_
    refine vp_callSi (W.runV (As := []) (rest := []) ⟨hx, hb, hml, hown, hta⟩ (k_M_thrown l G _ _ cI _ u8 had hmp2) (cV 0 hta aw_611 aw_5 aw_608 aw_609 aw_610 rfl rfl (by decide +kernel) ⟨Nat.le_of_ble_eq_true rfl, Nat.le_of_ble_eq_true rfl⟩) (pW_V hK hMM rfl hmp2.1) rfl rfl hl.1 rfl (lv_room (Nat.le_of_ble_eq_true rfl)) d_W_law_894 ⟨(show _ ≤ 601024 by omega), (show _ ≤ 7293034 by omega)⟩) (fun t_101 ht_101 => ?_)
    subst ht_101
    refine lv_iload hx hb d_W_law_897 (lv_at hl 1 rfl) ?_
    refine lv_icmp_eq (tgt := 904) hx hb d_W_law_899 (by decide) (fun c_102 => ?_) (fun c_102 => absurd rfl c_102)
    refine lv_iload hx hb d_W_law_904 (lv_at hl 1 rfl) ?_
    refine lv_if_ne (tgt := 921) hx hb d_W_law_906 (by decide) (fun c_103 => ?_) (fun c_103 => absurd c_103 hgt)
    refine lv_goto (tgt := 1036) hx hb d_W_law_921 (by decide) ?_
    refine W.widen (k := cells + 6) (n := slots + 40) (by omega) (by omega) ?_
    exact kk H locs ls ⟨u9.1, u8, α, ad, v, od, ro, bs, se, wr, kn, z, (nI (gT 2 (gC 1 (if 0 ≤ x1 then 1 else 0) 1 1))), n, ka, rn, sn, f, u9.2, rfl, hα, had, hcp2, hmp2, hrl, ho, hM, hMM, dj_sym hdj⟩ hS (lv_sub hl [2, 3, 4, 5, 6] rfl)
set_option maxHeartbeats 4000000 in
set_option maxRecDepth 100000 in
theorem arm_tick (l : Launch) (hlt : l.stackTraces = false) {p : Program} {e : Env} {s : State} {m : MethodId} {below : List Frame} {meth : Method} {c : Code} {b L : Nat} {xs : Nat → Int32} (hx : p.tables.exec = Jvm.exec) (hb : c.code = c_W_law) (hml : c.maxLocals = 7) (hown : s.vm.findClass nR_W = some m.cls) (hta : ∀ w ∈ AL, w.before #[Value.ref b] s = true) (hX : va_X b L xs s s.heap) (hbl : b < s.heap.size) (hL : L ≤ 3072) (G : va_G) (cN cB cI cJ : ClassId) (hK : va_K G ncl [(cN, .object nR_N), (cB, .byte), (cI, .int), (cJ, .long)] s) (hE0 : xEA s) (hN : xN s) {x mm o i : Nat} (hi : i + 6 ≤ L) {H : Heap} {locs : List Loc} {cells slots : Nat} {Q : State → Prop} (hcb : cells + 6 ≤ 601024) (hsb : slots + 40 ≤ 7293034) {ls : Array Slot} (hLI : LI G cN cB cI cJ x mm o (fun q => s.heap.size ≤ q) H) (hS : va_S (fun q => s.heap.size ≤ q) s.heap H locs) (hl : lv_has ls 7 [(0, .ref b), (1, .ref x), (2, .ref mm), (3, .ref o), (4, .int (nI i))]) (kk : ∀ (H : Heap) (locs : List Loc) (ls : Array Slot), LI G cN cB cI cJ x mm o (fun q => s.heap.size ≤ q) H → va_S (fun q => s.heap.size ≤ q) s.heap H locs → lv_has ls 7 [(0, .ref b), (1, .ref x), (2, .ref mm), (3, .ref o), (4, .int (nI i))] → W p l e room_1 s m #[Value.ref b] below meth c H locs (cells + 6) (slots + 40) Q (F0 m 1036 ls [])) : W p l e room_1 s m #[Value.ref b] below meth c H locs cells slots Q (F0 m 924 ls []) := by
  obtain ⟨w, wM, α, ad, v, od, ro, bs, se, wr, kn, z, th, n, ka, rn, sn, f, g, rfl, hα, had, hcp, hmp, hrl, ho, hM, hMM, hdj⟩ := hLI
  obtain ⟨x1, ex1⟩ : ∃ z9 : Int32, xs (nI i + 1).toNatClampNeg = z9 := ⟨_, rfl⟩
  obtain ⟨x2, ex2⟩ : ∃ z9 : Int32, xs (nI i + 2).toNatClampNeg = z9 := ⟨_, rfl⟩
  obtain ⟨x3, ex3⟩ : ∃ z9 : Int32, xs (nI i + 3).toNatClampNeg = z9 := ⟨_, rfl⟩
  obtain ⟨x4, ex4⟩ : ∃ z9 : Int32, xs (nI i + 4).toNatClampNeg = z9 := ⟨_, rfl⟩
  obtain ⟨x5, ex5⟩ : ∃ z9 : Int32, xs (nI i + 5).toNatClampNeg = z9 := ⟨_, rfl⟩
  refine lv_aload_n hx hb d_W_law_924 rfl (lv_at hl 1 rfl) ?_
  refine lv_aload_n hx hb d_W_law_925 rfl (lv_at hl 0 rfl) ?_
  refine lv_iload hx hb d_W_law_926 (lv_at hl 4 rfl) ?_
  refine lv_iconst (v := 1) hx hb d_W_law_928 (by decide) ?_
  refine lv_iadd hx hb d_W_law_929 ?_
  refine va_sld hx hb hX hbl (Nat.not_le.mpr hbl) hS (sc_in (k := 1) (by omega) (by omega)) d_W_law_930 ?_
  rw [ex1]
  refine lv_aload_n hx hb d_W_law_931 rfl (lv_at hl 3 rfl) ?_
  have hF := mw_free hM hS (fun q h => h)
  refine va_calli (vx_runSW (As := [.ref (α 0), .int x1, .ref o]) (rest := []) ⟨hx, hb, hml, hown, hta⟩ (k_W_tick l hlt G cN cB cI cJ [] w hα hcp (rl_cok hrl) ho g x1 _) (cSW 3 hta aw_516 aw_0 aw_514 aw_515 rfl rfl (by decide +kernel) ⟨Nat.le_of_ble_eq_true rfl, Nat.le_of_ble_eq_true rfl⟩) (pV_S hK hM (xEA_at hE0 hS) hN) rfl rfl hl.1 rfl (lv_room (Nat.le_of_ble_eq_true rfl)) d_W_law_932 ⟨(show _ ≤ 601024 by omega), (show _ ≤ 7293034 by omega)⟩) hS (fun q _ h => hF q h) hF (fun k0 u9 t H locs ht hvm hpost hB hz1 hk1 hS => ?_)
  obtain ⟨hM1, hK1⟩ := hB
  rw [ht] at hM1
  obtain ⟨hM, hMM, hdj⟩ := mw_pair hMM hdj hM1 hk1 hF
  clear hM1 hK1 hF hk1 hz1
  obtain ⟨ho, hk0, hne, hze⟩ := hpost
  subst hk0
  refine lv_istore (lv' := [(5, .int (nI (gT 2 (gC 1 (if (¬ x1 < 1 ∧ ¬ 5000 < x1) ∧ x1 ≤ 99999 - se then 1 else 0) 1 1)))), (0, .ref b), (1, .ref (α 0)), (2, .ref mm), (3, .ref o), (4, .int (nI i))]) hx hb d_W_law_935 hl (by decide) rfl (fun ls hl => ?_)
  refine lv_aload_n hx hb d_W_law_937 rfl (lv_at hl 3 rfl) ?_
  refine lv_aload_n hx hb d_W_law_938 rfl (lv_at hl 1 rfl) ?_
  refine lv_iload hx hb d_W_law_939 (lv_at hl 5 rfl) ?_
  refine lv_iconst (v := 1) hx hb d_W_law_941 (by decide) ?_
  refine lv_iadd hx hb d_W_law_942 ?_
  refine va_sld hx hb hX hbl (Nat.not_le.mpr hbl) hS (sc_in (k := 1) (by omega) (by omega)) d_W_law_943 ?_
  rw [ex1]
  have hF := mw_free hMM hS (fun q h => h)
  refine va_calli (va_runV (As := [.int x1]) (rest := []) ⟨hx, hb, hml, hown, hta⟩ (k_M_tick l G _ _ cI _ wM had hmp  x1  _) (cV 1 hta aw_717 aw_5 aw_714 aw_715 aw_716 rfl rfl (by decide +kernel) ⟨Nat.le_of_ble_eq_true rfl, Nat.le_of_ble_eq_true rfl⟩) (pZ_V hK hMM rfl hmp.1) rfl rfl hl.1 rfl (lv_room (Nat.le_of_ble_eq_true rfl)) d_W_law_944 ⟨(show _ ≤ 601024 by omega), (show _ ≤ 7293034 by omega)⟩) hS (fun q _ h => hF q h) hF (fun r0 u8 t H locs ht hvm hpost hB hz1 hk1 hS => ?_)
  obtain ⟨hM1, hK1⟩ := hB
  rw [ht] at hM1
  obtain ⟨hMM, hM, hdj⟩ := mw_pair hM (dj_sym hdj) hM1 hk1 hF
  clear hM1 hK1 hF hk1 hz1
  rw [← cd_tick x1] at hpost
  by_cases hC : gC 1 (if (¬ x1 < 1 ∧ ¬ 5000 < x1) ∧ x1 ≤ 99999 - se then 1 else 0) 1 1 = 0
  · obtain ⟨r, hr1, hra, hcp2⟩ := hze hC
    obtain ⟨hr0, hmp2⟩ := hpost.2 hC
    have hrr : r = r0 := by rw [hra, hr0]
    have hcmp : lg_cmp (u9.2 (0 : Int32).toNatClampNeg) r0.toInt64 = 0 := by rw [show u9.2 (0 : Int32).toNatClampNeg = r.toInt64 from hr1, hrr]; exact cmp_self _
    refine lv_istore (lv' := [(6, .int r0), (5, .int (nI (gT 2 (gC 1 (if (¬ x1 < 1 ∧ ¬ 5000 < x1) ∧ x1 ≤ 99999 - se then 1 else 0) 1 1)))), (0, .ref b), (1, .ref (α 0)), (2, .ref mm), (3, .ref o), (4, .int (nI i))]) hx hb d_W_law_947 hl (by decide) rfl (fun ls hl => ?_)
    refine lv_aload_n hx hb d_W_law_949 rfl (lv_at hl 4 rfl) ?_
    refine vp_callSi (W.runV (As := []) (rest := []) ⟨hx, hb, hml, hown, hta⟩ (k_M_thrown l G _ _ cI _ u8 had hmp2) (cV 0 hta aw_611 aw_5 aw_608 aw_609 aw_610 rfl rfl (by decide +kernel) ⟨Nat.le_of_ble_eq_true rfl, Nat.le_of_ble_eq_true rfl⟩) (pW_V hK hMM rfl hmp2.1) rfl rfl hl.1 rfl (lv_room (Nat.le_of_ble_eq_true rfl)) d_W_law_950 ⟨(show _ ≤ 601024 by omega), (show _ ≤ 7293034 by omega)⟩) (fun t_101 ht_101 => ?_)
    subst ht_101
    refine lv_iload hx hb d_W_law_953 (lv_at hl 1 rfl) ?_
    refine lv_icmp_eq (tgt := 960) hx hb d_W_law_955 (by decide) (fun c_102 => ?_) (fun c_102 => absurd (show nI (gT 2 (gC 1 (if (¬ x1 < 1 ∧ ¬ 5000 < x1) ∧ x1 ≤ 99999 - se then 1 else 0) 1 1)) = 0 by rw [hC]; rfl).symm c_102)
    refine lv_iload hx hb d_W_law_960 (lv_at hl 1 rfl) ?_
    refine lv_if_ne (tgt := 977) hx hb d_W_law_962 (by decide) (fun c_103 => absurd (show nI (gT 2 (gC 1 (if (¬ x1 < 1 ∧ ¬ 5000 < x1) ∧ x1 ≤ 99999 - se then 1 else 0) 1 1)) = 0 by rw [hC]; rfl) c_103) (fun c_103 => ?_)
    refine lv_aload_n hx hb d_W_law_965 rfl (lv_at hl 5 rfl) ?_
    refine lv_iconst (v := 0) hx hb d_W_law_966 (by decide) ?_
    refine m_lald hx hb hK hM 3 (va_up_self u9.1 o (some (aJ cJ 1 u9.2))) rfl (vp_in_nI (n := 0) (by decide) (by decide)) d_W_law_967 ?_
    refine lv_iload hx hb d_W_law_968 (lv_at hl 0 rfl) ?_
    refine lv_i2l hx hb d_W_law_970 rfl ?_
    refine W.lcmp hx hb d_W_law_971 ?_
    rw [hcmp]
    refine lv_if_eq (tgt := 977) hx hb d_W_law_972 (by decide) (fun c_104 => ?_) (fun c_104 => absurd (by decide) c_104)
    refine lv_goto (tgt := 1036) hx hb d_W_law_977 (by decide) ?_
    refine W.widen (k := cells + 6) (n := slots + 40) (by omega) (by omega) ?_
    exact kk H locs ls ⟨u9.1, u8, α, ad, v, od, ro, bs, (se + x1), wr, kn, z, 0, n, ka, rn, sn, f, u9.2, rfl, hα, had, hcp2, hmp2, nx_tick hrl hC, ho, hM, hMM, dj_sym hdj⟩ hS (lv_sub hl [2, 3, 4, 5, 6] rfl)
  · have hcp2 := hne hC
    have hmp2 := hpost.1 hC
    have hgt : ¬ nI (gT 2 (gC 1 (if (¬ x1 < 1 ∧ ¬ 5000 < x1) ∧ x1 ≤ 99999 - se then 1 else 0) 1 1)) = 0 := by
      rcases gC_cases 1 (if (¬ x1 < 1 ∧ ¬ 5000 < x1) ∧ x1 ≤ 99999 - se then 1 else 0) 1 1 with hcc | hcc | hcc | hcc | hcc
      · exact absurd hcc hC
      · exact absurd hcc.1 (by decide)
      · rw [hcc.2]; decide
      · exact absurd hcc.1 (by decide)
      · exact absurd hcc.1 (by decide)
    refine lv_istore (lv' := [(6, .int r0), (5, .int (nI (gT 2 (gC 1 (if (¬ x1 < 1 ∧ ¬ 5000 < x1) ∧ x1 ≤ 99999 - se then 1 else 0) 1 1)))), (0, .ref b), (1, .ref (α 0)), (2, .ref mm), (3, .ref o), (4, .int (nI i))]) hx hb d_W_law_947 hl (by decide) rfl (fun ls hl => ?_)
    refine lv_aload_n hx hb d_W_law_949 rfl (lv_at hl 4 rfl) ?_
    refine vp_callSi (W.runV (As := []) (rest := []) ⟨hx, hb, hml, hown, hta⟩ (k_M_thrown l G _ _ cI _ u8 had hmp2) (cV 0 hta aw_611 aw_5 aw_608 aw_609 aw_610 rfl rfl (by decide +kernel) ⟨Nat.le_of_ble_eq_true rfl, Nat.le_of_ble_eq_true rfl⟩) (pW_V hK hMM rfl hmp2.1) rfl rfl hl.1 rfl (lv_room (Nat.le_of_ble_eq_true rfl)) d_W_law_950 ⟨(show _ ≤ 601024 by omega), (show _ ≤ 7293034 by omega)⟩) (fun t_101 ht_101 => ?_)
    subst ht_101
    refine lv_iload hx hb d_W_law_953 (lv_at hl 1 rfl) ?_
    refine lv_icmp_eq (tgt := 960) hx hb d_W_law_955 (by decide) (fun c_102 => ?_) (fun c_102 => absurd rfl c_102)
    refine lv_iload hx hb d_W_law_960 (lv_at hl 1 rfl) ?_
    refine lv_if_ne (tgt := 977) hx hb d_W_law_962 (by decide) (fun c_103 => ?_) (fun c_103 => absurd c_103 hgt)
    refine lv_goto (tgt := 1036) hx hb d_W_law_977 (by decide) ?_
    refine W.widen (k := cells + 6) (n := slots + 40) (by omega) (by omega) ?_
    exact kk H locs ls ⟨u9.1, u8, α, ad, v, od, ro, bs, se, wr, kn, z, (nI (gT 2 (gC 1 (if (¬ x1 < 1 ∧ ¬ 5000 < x1) ∧ x1 ≤ 99999 - se then 1 else 0) 1 1))), n, ka, rn, sn, f, u9.2, rfl, hα, had, hcp2, hmp2, hrl, ho, hM, hMM, dj_sym hdj⟩ hS (lv_sub hl [2, 3, 4, 5, 6] rfl)
set_option maxHeartbeats 4000000 in
set_option maxRecDepth 100000 in
theorem arm_count (l : Launch) (hlt : l.stackTraces = false) {p : Program} {e : Env} {s : State} {m : MethodId} {below : List Frame} {meth : Method} {c : Code} {b L : Nat} {xs : Nat → Int32} (hx : p.tables.exec = Jvm.exec) (hb : c.code = c_W_law) (hml : c.maxLocals = 7) (hown : s.vm.findClass nR_W = some m.cls) (hta : ∀ w ∈ AL, w.before #[Value.ref b] s = true) (hX : va_X b L xs s s.heap) (hbl : b < s.heap.size) (hL : L ≤ 3072) (G : va_G) (cN cB cI cJ : ClassId) (hK : va_K G ncl [(cN, .object nR_N), (cB, .byte), (cI, .int), (cJ, .long)] s) (hE0 : xEA s) (hN : xN s) {x mm o i : Nat} (hi : i + 6 ≤ L) {H : Heap} {locs : List Loc} {cells slots : Nat} {Q : State → Prop} (hcb : cells + 6 ≤ 601024) (hsb : slots + 40 ≤ 7293034) {ls : Array Slot} (hLI : LI G cN cB cI cJ x mm o (fun q => s.heap.size ≤ q) H) (hS : va_S (fun q => s.heap.size ≤ q) s.heap H locs) (hl : lv_has ls 7 [(0, .ref b), (1, .ref x), (2, .ref mm), (3, .ref o), (4, .int (nI i))]) (kk : ∀ (H : Heap) (locs : List Loc) (ls : Array Slot), LI G cN cB cI cJ x mm o (fun q => s.heap.size ≤ q) H → va_S (fun q => s.heap.size ≤ q) s.heap H locs → lv_has ls 7 [(0, .ref b), (1, .ref x), (2, .ref mm), (3, .ref o), (4, .int (nI i))] → W p l e room_1 s m #[Value.ref b] below meth c H locs (cells + 6) (slots + 40) Q (F0 m 1036 ls [])) : W p l e room_1 s m #[Value.ref b] below meth c H locs cells slots Q (F0 m 980 ls []) := by
  obtain ⟨w, wM, α, ad, v, od, ro, bs, se, wr, kn, z, th, n, ka, rn, sn, f, g, rfl, hα, had, hcp, hmp, hrl, ho, hM, hMM, hdj⟩ := hLI
  obtain ⟨x1, ex1⟩ : ∃ z9 : Int32, xs (nI i + 1).toNatClampNeg = z9 := ⟨_, rfl⟩
  obtain ⟨x2, ex2⟩ : ∃ z9 : Int32, xs (nI i + 2).toNatClampNeg = z9 := ⟨_, rfl⟩
  obtain ⟨x3, ex3⟩ : ∃ z9 : Int32, xs (nI i + 3).toNatClampNeg = z9 := ⟨_, rfl⟩
  obtain ⟨x4, ex4⟩ : ∃ z9 : Int32, xs (nI i + 4).toNatClampNeg = z9 := ⟨_, rfl⟩
  obtain ⟨x5, ex5⟩ : ∃ z9 : Int32, xs (nI i + 5).toNatClampNeg = z9 := ⟨_, rfl⟩
  refine lv_aload_n hx hb d_W_law_980 rfl (lv_at hl 1 rfl) ?_
  refine lv_aload_n hx hb d_W_law_981 rfl (lv_at hl 0 rfl) ?_
  refine lv_iload hx hb d_W_law_982 (lv_at hl 4 rfl) ?_
  refine lv_iconst (v := 1) hx hb d_W_law_984 (by decide) ?_
  refine lv_iadd hx hb d_W_law_985 ?_
  refine va_sld hx hb hX hbl (Nat.not_le.mpr hbl) hS (sc_in (k := 1) (by omega) (by omega)) d_W_law_986 ?_
  rw [ex1]
  refine lv_aload_n hx hb d_W_law_987 rfl (lv_at hl 3 rfl) ?_
  have hF := mw_free hM hS (fun q h => h)
  refine va_calli (vx_runSW (As := [.ref (α 0), .int x1, .ref o]) (rest := []) ⟨hx, hb, hml, hown, hta⟩ (k_W_count l hlt G cN cB cI cJ [] w hα hcp (rl_cok hrl) ho g x1 _) (cSW 3 hta aw_524 aw_0 aw_522 aw_523 rfl rfl (by decide +kernel) ⟨Nat.le_of_ble_eq_true rfl, Nat.le_of_ble_eq_true rfl⟩) (pV_S hK hM (xEA_at hE0 hS) hN) rfl rfl hl.1 rfl (lv_room (Nat.le_of_ble_eq_true rfl)) d_W_law_988 ⟨(show _ ≤ 601024 by omega), (show _ ≤ 7293034 by omega)⟩) hS (fun q _ h => hF q h) hF (fun k0 u9 t H locs ht hvm hpost hB hz1 hk1 hS => ?_)
  obtain ⟨hM1, hK1⟩ := hB
  rw [ht] at hM1
  obtain ⟨hM, hMM, hdj⟩ := mw_pair hMM hdj hM1 hk1 hF
  clear hM1 hK1 hF hk1 hz1
  obtain ⟨ho, hk0, hne, hze⟩ := hpost
  subst hk0
  refine lv_istore (lv' := [(5, .int (nI (gT 1 (gC (if ¬ x1 < 0 ∧ ¬ 4 < x1 then 1 else 0) 1 1 1)))), (0, .ref b), (1, .ref (α 0)), (2, .ref mm), (3, .ref o), (4, .int (nI i))]) hx hb d_W_law_991 hl (by decide) rfl (fun ls hl => ?_)
  refine lv_aload_n hx hb d_W_law_993 rfl (lv_at hl 3 rfl) ?_
  refine lv_aload_n hx hb d_W_law_994 rfl (lv_at hl 1 rfl) ?_
  refine lv_iload hx hb d_W_law_995 (lv_at hl 5 rfl) ?_
  refine lv_iconst (v := 1) hx hb d_W_law_997 (by decide) ?_
  refine lv_iadd hx hb d_W_law_998 ?_
  refine va_sld hx hb hX hbl (Nat.not_le.mpr hbl) hS (sc_in (k := 1) (by omega) (by omega)) d_W_law_999 ?_
  rw [ex1]
  have hF := mw_free hMM hS (fun q h => h)
  refine va_calli (va_runV (As := [.int x1]) (rest := []) ⟨hx, hb, hml, hown, hta⟩ (k_M_count l G _ _ cI _ wM had hmp hrl.1.2.1 rfl hrl.1.1 rfl x1  _) (cV 1 hta aw_721 aw_5 aw_718 aw_719 aw_720 rfl rfl (by decide +kernel) ⟨Nat.le_of_ble_eq_true rfl, Nat.le_of_ble_eq_true rfl⟩) (pZ_V hK hMM rfl hmp.1) rfl rfl hl.1 rfl (lv_room (Nat.le_of_ble_eq_true rfl)) d_W_law_1000 ⟨(show _ ≤ 601024 by omega), (show _ ≤ 7293034 by omega)⟩) hS (fun q _ h => hF q h) hF (fun r0 u8 t H locs ht hvm hpost hB hz1 hk1 hS => ?_)
  obtain ⟨hM1, hK1⟩ := hB
  rw [ht] at hM1
  obtain ⟨hMM, hM, hdj⟩ := mw_pair hM (dj_sym hdj) hM1 hk1 hF
  clear hM1 hK1 hF hk1 hz1
  by_cases hC : gC (if ¬ x1 < 0 ∧ ¬ 4 < x1 then 1 else 0) 1 1 1 = 0
  · obtain ⟨r, hr1, hra, hcp2⟩ := hze hC
    obtain ⟨hr0, hmp2⟩ := hpost.2 hC
    have hrr : r = r0 := by rw [hra, hr0]; exact an_count hrl x1 (nI ka) rfl
    have hcmp : lg_cmp (u9.2 (0 : Int32).toNatClampNeg) r0.toInt64 = 0 := by rw [show u9.2 (0 : Int32).toNatClampNeg = r.toInt64 from hr1, hrr]; exact cmp_self _
    refine lv_istore (lv' := [(6, .int r0), (5, .int (nI (gT 1 (gC (if ¬ x1 < 0 ∧ ¬ 4 < x1 then 1 else 0) 1 1 1)))), (0, .ref b), (1, .ref (α 0)), (2, .ref mm), (3, .ref o), (4, .int (nI i))]) hx hb d_W_law_1003 hl (by decide) rfl (fun ls hl => ?_)
    refine lv_aload_n hx hb d_W_law_1005 rfl (lv_at hl 4 rfl) ?_
    refine vp_callSi (W.runV (As := []) (rest := []) ⟨hx, hb, hml, hown, hta⟩ (k_M_thrown l G _ _ cI _ u8 had hmp2) (cV 0 hta aw_611 aw_5 aw_608 aw_609 aw_610 rfl rfl (by decide +kernel) ⟨Nat.le_of_ble_eq_true rfl, Nat.le_of_ble_eq_true rfl⟩) (pW_V hK hMM rfl hmp2.1) rfl rfl hl.1 rfl (lv_room (Nat.le_of_ble_eq_true rfl)) d_W_law_1006 ⟨(show _ ≤ 601024 by omega), (show _ ≤ 7293034 by omega)⟩) (fun t_101 ht_101 => ?_)
    subst ht_101
    refine lv_iload hx hb d_W_law_1009 (lv_at hl 1 rfl) ?_
    refine lv_icmp_eq (tgt := 1016) hx hb d_W_law_1011 (by decide) (fun c_102 => ?_) (fun c_102 => absurd (show nI (gT 1 (gC (if ¬ x1 < 0 ∧ ¬ 4 < x1 then 1 else 0) 1 1 1)) = 0 by rw [hC]; rfl).symm c_102)
    refine lv_iload hx hb d_W_law_1016 (lv_at hl 1 rfl) ?_
    refine lv_if_ne (tgt := 1033) hx hb d_W_law_1018 (by decide) (fun c_103 => absurd (show nI (gT 1 (gC (if ¬ x1 < 0 ∧ ¬ 4 < x1 then 1 else 0) 1 1 1)) = 0 by rw [hC]; rfl) c_103) (fun c_103 => ?_)
    refine lv_aload_n hx hb d_W_law_1021 rfl (lv_at hl 5 rfl) ?_
    refine lv_iconst (v := 0) hx hb d_W_law_1022 (by decide) ?_
    refine m_lald hx hb hK hM 3 (va_up_self u9.1 o (some (aJ cJ 1 u9.2))) rfl (vp_in_nI (n := 0) (by decide) (by decide)) d_W_law_1023 ?_
    refine lv_iload hx hb d_W_law_1024 (lv_at hl 0 rfl) ?_
    refine lv_i2l hx hb d_W_law_1026 rfl ?_
    refine W.lcmp hx hb d_W_law_1027 ?_
    rw [hcmp]
    refine lv_if_eq (tgt := 1033) hx hb d_W_law_1028 (by decide) (fun c_104 => ?_) (fun c_104 => absurd (by decide) c_104)
    refine lv_goto (tgt := 1036) hx hb d_W_law_1033 (by decide) ?_
    refine W.widen (k := cells + 6) (n := slots + 40) (by omega) (by omega) ?_
    exact kk H locs ls ⟨u9.1, u8, α, ad, v, od, ro, bs, se, wr, kn, z, 0, n, ka, rn, sn, f, u9.2, rfl, hα, had, hcp2, hmp2, hrl, ho, hM, hMM, dj_sym hdj⟩ hS (lv_sub hl [2, 3, 4, 5, 6] rfl)
  · have hcp2 := hne hC
    have hmp2 := hpost.1 hC
    have hgt : ¬ nI (gT 1 (gC (if ¬ x1 < 0 ∧ ¬ 4 < x1 then 1 else 0) 1 1 1)) = 0 := by
      rcases gC_cases (if ¬ x1 < 0 ∧ ¬ 4 < x1 then 1 else 0) 1 1 1 with hcc | hcc | hcc | hcc | hcc
      · exact absurd hcc hC
      · rw [hcc.2]; decide
      · exact absurd hcc.1 (by decide)
      · exact absurd hcc.1 (by decide)
      · exact absurd hcc.1 (by decide)
    refine lv_istore (lv' := [(6, .int r0), (5, .int (nI (gT 1 (gC (if ¬ x1 < 0 ∧ ¬ 4 < x1 then 1 else 0) 1 1 1)))), (0, .ref b), (1, .ref (α 0)), (2, .ref mm), (3, .ref o), (4, .int (nI i))]) hx hb d_W_law_1003 hl (by decide) rfl (fun ls hl => ?_)
    refine lv_aload_n hx hb d_W_law_1005 rfl (lv_at hl 4 rfl) ?_
    refine vp_callSi (W.runV (As := []) (rest := []) ⟨hx, hb, hml, hown, hta⟩ (k_M_thrown l G _ _ cI _ u8 had hmp2) (cV 0 hta aw_611 aw_5 aw_608 aw_609 aw_610 rfl rfl (by decide +kernel) ⟨Nat.le_of_ble_eq_true rfl, Nat.le_of_ble_eq_true rfl⟩) (pW_V hK hMM rfl hmp2.1) rfl rfl hl.1 rfl (lv_room (Nat.le_of_ble_eq_true rfl)) d_W_law_1006 ⟨(show _ ≤ 601024 by omega), (show _ ≤ 7293034 by omega)⟩) (fun t_101 ht_101 => ?_)
    subst ht_101
    refine lv_iload hx hb d_W_law_1009 (lv_at hl 1 rfl) ?_
    refine lv_icmp_eq (tgt := 1016) hx hb d_W_law_1011 (by decide) (fun c_102 => ?_) (fun c_102 => absurd rfl c_102)
    refine lv_iload hx hb d_W_law_1016 (lv_at hl 1 rfl) ?_
    refine lv_if_ne (tgt := 1033) hx hb d_W_law_1018 (by decide) (fun c_103 => ?_) (fun c_103 => absurd c_103 hgt)
    refine lv_goto (tgt := 1036) hx hb d_W_law_1033 (by decide) ?_
    refine W.widen (k := cells + 6) (n := slots + 40) (by omega) (by omega) ?_
    exact kk H locs ls ⟨u9.1, u8, α, ad, v, od, ro, bs, se, wr, kn, z, (nI (gT 1 (gC (if ¬ x1 < 0 ∧ ¬ 4 < x1 then 1 else 0) 1 1 1))), n, ka, rn, sn, f, u9.2, rfl, hα, had, hcp2, hmp2, hrl, ho, hM, hMM, dj_sym hdj⟩ hS (lv_sub hl [2, 3, 4, 5, 6] rfl)
