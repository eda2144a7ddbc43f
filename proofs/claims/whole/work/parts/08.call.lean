/-! calls over the one list of words; what a call wants of the map -/
theorem as_SceneTimes_isWriter : Cond.selects "SceneTimes" ⟨"SceneTimes", "isWriter", "(I)Z"⟩ ⟨"SceneTimes", "isWriter", "(I)Z"⟩ ∈ AL := AL_s (List.mem_of_getElem? (i := 1) (by decide +kernel)) rfl
theorem as_SceneTimes_hasCome : Cond.selects "SceneTimes" ⟨"SceneTimes", "hasCome", "(I)Z"⟩ ⟨"SceneTimes", "hasCome", "(I)Z"⟩ ∈ AL := AL_s (List.mem_of_getElem? (i := 2) (by decide +kernel)) rfl
theorem as_SceneTimes_noteOf : Cond.selects "SceneTimes" ⟨"SceneTimes", "noteOf", "(I)LSceneTimes$Note;"⟩ ⟨"SceneTimes", "noteOf", "(I)LSceneTimes$Note;"⟩ ∈ AL := AL_s (List.mem_of_getElem? (i := 3) (by decide +kernel)) rfl
theorem as_SceneTimes_refuseActWithoutRoom : Cond.selects "SceneTimes" ⟨"SceneTimes", "refuseActWithoutRoom", "()V"⟩ ⟨"SceneTimes", "refuseActWithoutRoom", "()V"⟩ ∈ AL := AL_s (List.mem_of_getElem? (i := 4) (by decide +kernel)) rfl
theorem as_SceneTimes_Sheet_putNumber : Cond.selects "SceneTimes$Sheet" ⟨"SceneTimes$Sheet", "putNumber", "(CI)V"⟩ ⟨"SceneTimes$Sheet", "putNumber", "(CI)V"⟩ ∈ AL := AL_s (List.mem_of_getElem? (i := 5) (by decide +kernel)) rfl
theorem as_SceneTimes_Sheet_put : Cond.selects "SceneTimes$Sheet" ⟨"SceneTimes$Sheet", "put", "(C)V"⟩ ⟨"SceneTimes$Sheet", "put", "(C)V"⟩ ∈ AL := AL_s (List.mem_of_getElem? (i := 6) (by decide +kernel)) rfl
theorem as_SceneTimes_Sheet_putDigits : Cond.selects "SceneTimes$Sheet" ⟨"SceneTimes$Sheet", "putDigits", "(I)V"⟩ ⟨"SceneTimes$Sheet", "putDigits", "(I)V"⟩ ∈ AL := AL_s (List.mem_of_getElem? (i := 7) (by decide +kernel)) rfl
theorem as_SceneTimesModel_goes : Cond.selects "SceneTimesModel" ⟨"SceneTimesModel", "goes", "(IZZZZ)Z"⟩ ⟨"SceneTimesModel", "goes", "(IZZZZ)Z"⟩ ∈ AL := AL_s (List.mem_of_getElem? (i := 8) (by decide +kernel)) rfl
theorem as_SceneTimesModel_isGone : Cond.selects "SceneTimesModel" ⟨"SceneTimesModel", "isGone", "(I)Z"⟩ ⟨"SceneTimesModel", "isGone", "(I)Z"⟩ ∈ AL := AL_s (List.mem_of_getElem? (i := 9) (by decide +kernel)) rfl
theorem as_SceneTimesModel_isNote : Cond.selects "SceneTimesModel" ⟨"SceneTimesModel", "isNote", "(I)Z"⟩ ⟨"SceneTimesModel", "isNote", "(I)Z"⟩ ∈ AL := AL_s (List.mem_of_getElem? (i := 10) (by decide +kernel)) rfl
theorem as_SceneTimesModel_isStruck : Cond.selects "SceneTimesModel" ⟨"SceneTimesModel", "isStruck", "(II)Z"⟩ ⟨"SceneTimesModel", "isStruck", "(II)Z"⟩ ∈ AL := AL_s (List.mem_of_getElem? (i := 11) (by decide +kernel)) rfl
theorem as_SceneTimesModel_does : Cond.selects "SceneTimesModel" ⟨"SceneTimesModel", "does", "(III)V"⟩ ⟨"SceneTimesModel", "does", "(III)V"⟩ ∈ AL := AL_s (List.mem_of_getElem? (i := 12) (by decide +kernel)) rfl
theorem as_SceneTimesModel_many : Cond.selects "SceneTimesModel" ⟨"SceneTimesModel", "many", "(IZ)I"⟩ ⟨"SceneTimesModel", "many", "(IZ)I"⟩ ∈ AL := AL_s (List.mem_of_getElem? (i := 13) (by decide +kernel)) rfl
theorem as_SceneTimesModel_following : Cond.selects "SceneTimesModel" ⟨"SceneTimesModel", "following", "(IZIII)I"⟩ ⟨"SceneTimesModel", "following", "(IZIII)I"⟩ ∈ AL := AL_s (List.mem_of_getElem? (i := 14) (by decide +kernel)) rfl
theorem as_SceneTimesModel_isBefore : Cond.selects "SceneTimesModel" ⟨"SceneTimesModel", "isBefore", "(II)Z"⟩ ⟨"SceneTimesModel", "isBefore", "(II)Z"⟩ ∈ AL := AL_s (List.mem_of_getElem? (i := 15) (by decide +kernel)) rfl
theorem as_SceneTimesModel_value : Cond.selects "SceneTimesModel" ⟨"SceneTimesModel", "value", "(II)I"⟩ ⟨"SceneTimesModel", "value", "(II)I"⟩ ∈ AL := AL_s (List.mem_of_getElem? (i := 16) (by decide +kernel)) rfl
theorem as_SceneTimesModel_number : Cond.selects "SceneTimesModel" ⟨"SceneTimesModel", "number", "(II)V"⟩ ⟨"SceneTimesModel", "number", "(II)V"⟩ ∈ AL := AL_s (List.mem_of_getElem? (i := 17) (by decide +kernel)) rfl
theorem as_SceneTimesModel_put : Cond.selects "SceneTimesModel" ⟨"SceneTimesModel", "put", "(I)V"⟩ ⟨"SceneTimesModel", "put", "(I)V"⟩ ∈ AL := AL_s (List.mem_of_getElem? (i := 18) (by decide +kernel)) rfl
theorem in_X : ∀ w ∈ u_ws nR_X nT_X 6, w ∈ AL := by
  intro w hw
  obtain ⟨k, hk, rfl⟩ := List.mem_map.mp hw
  have hk := List.mem_range.mp hk
  match k, hk with
  | 0, _ => exact aw_91
  | 1, _ => exact aw_93
  | 2, _ => exact aw_95
  | 3, _ => exact aw_97
  | 4, _ => exact aw_99
  | 5, _ => exact aw_101
  | k + 6, h => exact absurd h (by omega)
theorem in_L : ∀ w ∈ u_ws nR_L nT_L 3, w ∈ AL := by
  intro w hw
  obtain ⟨k, hk, rfl⟩ := List.mem_map.mp hw
  have hk := List.mem_range.mp hk
  match k, hk with
  | 0, _ => exact aw_38
  | 1, _ => exact aw_40
  | 2, _ => exact aw_42
  | k + 3, h => exact absurd h (by omega)
theorem in_Q : ∀ w ∈ u_ws nR_Q nT_Q 4, w ∈ AL := by
  intro w hw
  obtain ⟨k, hk, rfl⟩ := List.mem_map.mp hw
  have hk := List.mem_range.mp hk
  match k, hk with
  | 0, _ => exact aw_60
  | 1, _ => exact aw_62
  | 2, _ => exact aw_64
  | 3, _ => exact aw_66
  | k + 4, h => exact absurd h (by omega)
theorem in_S : ∀ w ∈ u_ws nR_S nT_S 2, w ∈ AL := by
  intro w hw
  obtain ⟨k, hk, rfl⟩ := List.mem_map.mp hw
  have hk := List.mem_range.mp hk
  match k, hk with
  | 0, _ => exact aw_79
  | 1, _ => exact aw_81
  | k + 2, h => exact absurd h (by omega)
theorem in_N : ∀ w ∈ u_ws nR_N nT_N 10, w ∈ AL := by
  intro w hw
  obtain ⟨k, hk, rfl⟩ := List.mem_map.mp hw
  have hk := List.mem_range.mp hk
  match k, hk with
  | 0, _ => exact aw_303
  | 1, _ => exact aw_305
  | 2, _ => exact aw_307
  | 3, _ => exact aw_309
  | 4, _ => exact aw_311
  | 5, _ => exact aw_313
  | 6, _ => exact aw_315
  | 7, _ => exact aw_317
  | 8, _ => exact aw_319
  | 9, _ => exact aw_321
  | k + 10, h => exact absurd h (by omega)
theorem in_T : ∀ w ∈ u_ws nR_T nT_T 4, w ∈ AL := by
  intro w hw
  obtain ⟨k, hk, rfl⟩ := List.mem_map.mp hw
  have hk := List.mem_range.mp hk
  match k, hk with
  | 0, _ => exact aw_266
  | 1, _ => exact aw_268
  | 2, _ => exact aw_270
  | 3, _ => exact aw_272
  | k + 4, h => exact absurd h (by omega)
theorem in_M : ∀ w ∈ u_ws nR_M nT_M 21, w ∈ AL := by
  intro w hw
  obtain ⟨k, hk, rfl⟩ := List.mem_map.mp hw
  have hk := List.mem_range.mp hk
  match k, hk with
  | 0, _ => exact aw_564
  | 1, _ => exact aw_566
  | 2, _ => exact aw_568
  | 3, _ => exact aw_570
  | 4, _ => exact aw_572
  | 5, _ => exact aw_574
  | 6, _ => exact aw_576
  | 7, _ => exact aw_578
  | 8, _ => exact aw_580
  | 9, _ => exact aw_582
  | 10, _ => exact aw_584
  | 11, _ => exact aw_586
  | 12, _ => exact aw_588
  | 13, _ => exact aw_590
  | 14, _ => exact aw_592
  | 15, _ => exact aw_594
  | 16, _ => exact aw_596
  | 17, _ => exact aw_598
  | 18, _ => exact aw_600
  | 19, _ => exact aw_602
  | 20, _ => exact aw_604
  | k + 21, h => exact absurd h (by omega)
abbrev wm (y : MethodName) (b : ByteArray) (n : Nat) (r : Option FieldType) : List Cond := Cond.code y b n r :: AL
abbrev ww (y : MethodName) (b : ByteArray) (n : Nat) (r : Option FieldType) (hh : List (Nat × Nat × Nat × Nat)) : List Cond := Cond.codeWith y b n r hh :: AL
theorem gI {y : MethodName} {b : ByteArray} {n : Nat} {r : Option FieldType} (hc : Cond.code y b n r ∈ AL) : GoodIn AL (wm y b n r) := fun w hw => by
  rcases List.mem_cons.mp hw with rfl | hw
  · exact ⟨hc, AL_good hc⟩
  · exact ⟨hw, AL_good hw⟩
theorem gW {y : MethodName} {b : ByteArray} {n : Nat} {r : Option FieldType} {hh : List (Nat × Nat × Nat × Nat)} (hc : Cond.codeWith y b n r hh ∈ AL) : GoodIn AL (ww y b n r hh) := fun w hw => by
  rcases List.mem_cons.mp hw with rfl | hw
  · exact ⟨hc, AL_good hc⟩
  · exact ⟨hw, AL_good hw⟩
section CB
variable {R : Room} {s : State} {args : Array Value} {own : String} {index : Nat} {y : MethodName} {bytes : ByteArray} {maxL mc ms : Nat} {ret : Option FieldType} {rm : Room}
theorem cB (n : Nat) (hta : ∀ w ∈ AL, w.before args s = true) (hc : Cond.code y bytes maxL ret ∈ AL) (hini : Cond.initialized y.cls ∈ AL) (hl : Cond.methodLink own index y ∈ AL) (hrc : rm.cells = mc) (hrs : rm.slots = ms)
    (hd : y.cls ≠ "java/lang/invoke/MethodHandle" ∧ y.cls ≠ "java/lang/invoke/VarHandle" ∧ (parseMethodDescriptor y.desc).map (fun d => d.parameters.length) = some n) (hR : rm.frames + 1 ≤ R.frames ∧ 8 + (maxL + 11) + rm.locals ≤ R.locals) :
    CallB R s args own index y bytes maxL ret (wm y bytes maxL ret) rm mc ms n := callB_of n hta (gI hc) rfl hrc hrs (hta _ hini) (hta _ hl) hd hR
theorem cV (n : Nat) (hta : ∀ w ∈ AL, w.before args s = true) (hc : Cond.code y bytes maxL ret ∈ AL) (hini : Cond.initialized y.cls ∈ AL) (hl : Cond.methodLink own index y ∈ AL) (hi : Cond.instanceMethod y ∈ AL) (hs : Cond.selects y.cls y y ∈ AL) (hrc : rm.cells = mc) (hrs : rm.slots = ms)
    (hd : y.cls ≠ "java/lang/invoke/MethodHandle" ∧ y.cls ≠ "java/lang/invoke/VarHandle" ∧ (parseMethodDescriptor y.desc).map (fun d => d.parameters.length) = some n) (hR : rm.frames + 1 ≤ R.frames ∧ 8 + (maxL + 11) + rm.locals ≤ R.locals) :
    CallW R s args own y.cls index y bytes maxL ret (wm y bytes maxL ret) rm mc ms n := ⟨cB n hta hc hini hl hrc hrs hd hR, hta _ hi, hta _ hs⟩
theorem cS (n : Nat) (hta : ∀ w ∈ AL, w.before args s = true) (hc : Cond.code y bytes maxL ret ∈ AL) (hini : Cond.initialized y.cls ∈ AL) (hl : Cond.methodLink own index y ∈ AL) (hs : Cond.static y ∈ AL) (hrc : rm.cells = mc) (hrs : rm.slots = ms)
    (hd : y.cls ≠ "java/lang/invoke/MethodHandle" ∧ y.cls ≠ "java/lang/invoke/VarHandle" ∧ (parseMethodDescriptor y.desc).map (fun d => d.parameters.length) = some n) (hR : rm.frames + 1 ≤ R.frames ∧ 8 + (maxL + 11) + rm.locals ≤ R.locals) :
    CallB R s args own index y bytes maxL ret (wm y bytes maxL ret) rm mc ms n ∧ (Cond.static y).before args s = true := ⟨cB n hta hc hini hl hrc hrs hd hR, hta _ hs⟩
theorem cI (n : Nat) (hta : ∀ w ∈ AL, w.before args s = true) (hc : Cond.code y bytes maxL none ∈ AL) (hini : Cond.initialized y.cls ∈ AL) (hl : Cond.methodLink own index y ∈ AL) (hi : Cond.instanceMethod y ∈ AL) (hn : y.name = "<init>") (hrc : rm.cells = mc) (hrs : rm.slots = ms)
    (hd : y.cls ≠ "java/lang/invoke/MethodHandle" ∧ y.cls ≠ "java/lang/invoke/VarHandle" ∧ (parseMethodDescriptor y.desc).map (fun d => d.parameters.length) = some n) (hR : rm.frames + 1 ≤ R.frames ∧ 8 + (maxL + 11) + rm.locals ≤ R.locals) :
    CallB R s args own index y bytes maxL none (wm y bytes maxL none) rm mc ms n ∧ y.name = "<init>" ∧ (Cond.instanceMethod y).before args s = true := ⟨cB n hta hc hini hl hrc hrs hd hR, hn, hta _ hi⟩
end CB
/-- before a reader: the map, the tables -/
abbrev pW (G : va_G) (tys : List (ClassId × FieldType)) (w : Nat → Option va_E) (av : List Value) : Array Value → State → Prop := va_Pc av (fun U => mw G ncl (fun _ => True) w U.heap ∧ va_K G ncl tys U)
/-- before a writer: the heap's size too -/
abbrev pZ (G : va_G) (tys : List (ClassId × FieldType)) (w : Nat → Option va_E) (sz : Nat) (av : List Value) : Array Value → State → Prop := va_Pc av (fun U => U.heap.size = sz ∧ mw G ncl (fun _ => True) w U.heap ∧ va_K G ncl tys U)
section PP
variable {G : va_G} {tys : List (ClassId × FieldType)} {w : Nat → Option va_E} {s : State} {H : Heap} {A : Nat → Prop} {a ci : Nat} {q : vw_C} {fs As : List Value}
theorem pW_V (hK : va_K G ncl tys s) (hM : mw G ncl A w H) (hc : ncl[ci]? = some q) (he : w a = some (.inr (ci, fs))) : PreV s H q.1 a (pW G tys w (.ref a :: As)) As :=
  ⟨fun a U g mk q => ⟨q.1, q.2.1, va_K.moved (u := U) (U := U.calling g mk a) (Vm.Alike.refl U.vm) q.2.2⟩, m_recv hK hM hc he, fun U hU hW => ⟨rfl, by rw [hU]; exact mw_weaken hM (fun _ _ => trivial), va_K.moved hW.alike hK⟩⟩
theorem pW_S (hK : va_K G ncl tys s) (hM : mw G ncl A w H) : PreS s H (pW G tys w As) As :=
  ⟨fun a U g mk q => ⟨q.1, q.2.1, va_K.moved (u := U) (U := U.calling g mk a) (Vm.Alike.refl U.vm) q.2.2⟩, fun U hU hW => ⟨rfl, by rw [hU]; exact mw_weaken hM (fun _ _ => trivial), va_K.moved hW.alike hK⟩⟩
theorem pZ_V (hK : va_K G ncl tys s) (hM : mw G ncl A w H) (hc : ncl[ci]? = some q) (he : w a = some (.inr (ci, fs))) : PreV s H q.1 a (pZ G tys w H.size (.ref a :: As)) As :=
  ⟨fun a U g mk q => ⟨q.1, q.2.1, q.2.2.1, va_K.moved (u := U) (U := U.calling g mk a) (Vm.Alike.refl U.vm) q.2.2.2⟩, m_recv hK hM hc he, fun U hU hW => ⟨rfl, by rw [hU], by rw [hU]; exact mw_weaken hM (fun _ _ => trivial), va_K.moved hW.alike hK⟩⟩
theorem pZ_S (hK : va_K G ncl tys s) (hM : mw G ncl A w H) : PreS s H (pZ G tys w H.size As) As :=
  ⟨fun a U g mk q => ⟨q.1, q.2.1, q.2.2.1, va_K.moved (u := U) (U := U.calling g mk a) (Vm.Alike.refl U.vm) q.2.2.2⟩, fun U hU hW => ⟨rfl, by rw [hU], by rw [hU]; exact mw_weaken hM (fun _ _ => trivial), va_K.moved hW.alike hK⟩⟩
end PP
