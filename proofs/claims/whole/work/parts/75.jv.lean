section
/-! BETWEEN THE CALLS: the ranges of both, and the relation -/
def Jv (σ τ : fS) : Prop := x_I σ ∧ m_I τ ∧ Rr σ τ
theorem Jv_x {σ τ : fS} (h : Jv σ τ) : x_I σ := h.1
theorem Jv_m {σ τ : fS} (h : Jv σ τ) : m_I τ := h.2.1
theorem x_I_0 : x_I x_0 := by
  refine ⟨fun a b => ?_, fun a b => ?_⟩
  · show x_okF a b 0
    unfold x_okF
    (repeat' split) <;> first | trivial | omega
  · show x_okA a 0
    unfold x_okA
    (repeat' split) <;> first | trivial | omega
theorem m_I_0 : m_I x_0 := by
  refine ⟨fun b => ?_, fun a b => ?_, fun i _ => (show (0 : Int) ≤ 0 ∧ (0 : Int) + 0 ≤ 12000 by omega), fun h => absurd rfl h⟩
  · show m_okF b 0
    unfold m_okF
    (repeat' split) <;> first | trivial | omega
  · show m_okA a 0
    unfold m_okA
    (repeat' split) <;> first | trivial | omega
theorem Rr_x0 : Rr x_0 x_0 := by
  refine ⟨fun n n1 n40 => ⟨rfl, ?_, rfl, fun h => absurd h (by show ¬ (0 : Int) = 1; decide)⟩, ⟨rfl, rfl, rfl⟩, rfl, fun r hr => absurd hr (by show ¬ (r : Int) < 0; omega)⟩
  unfold x_ch
  rw [if_neg (by show ¬ (0 : Int) = 1; decide)]
  rfl
theorem Jv_0 : Jv x_0 x_0 := ⟨x_I_0, m_I_0, Rr_x0⟩
section JV
variable {σ σ1 τ τ1 : fS} {k v r n i m b c w how : Int}
theorem sj_object (h : Jv σ τ) (hy : y_object σ n m k v σ1) (hu : u_object τ n m τ1) : Jv σ1 τ1 := ⟨xI_object h.1 hy, mI_object h.2.1 hu, (rs_object h.2.2 h.1 hy hu).1⟩
theorem st_object (h : Jv σ τ) (hy : y_object σ n m k v σ1) (hu : u_object τ n m τ1) : Jv σ1 τ1 ∧ τ1.1 0 0 = k ∧ 0 ≤ k ∧ k ≤ 2 := ⟨sj_object h  hy hu, (rs_object h.2.2 h.1 hy hu).2⟩
theorem sj_write (h : Jv σ τ) (hy : y_write σ how k v σ1) (hu : u_write τ how r τ1) : Jv σ1 τ1 := ⟨xI_write h.1 hy, mI_write h.2.1 hu, (rs_write h.2.2 h.1 h.2.1 hy hu).1⟩
theorem st_write (h : Jv σ τ) (hy : y_write σ how k v σ1) (hu : u_write τ how r τ1) : Jv σ1 τ1 ∧ τ1.1 0 0 = k ∧ (0 ≤ k ∧ k ≤ 2) ∧ (k = 0 → v = r) ∧ -2147483648 ≤ r ∧ r ≤ 2147483647 := ⟨sj_write h  hy hu, (rs_write h.2.2 h.1 h.2.1 hy hu).2⟩
theorem sj_append (h : Jv σ τ) (hy : y_append σ  k v σ1) (hu : u_append τ  r τ1) : Jv σ1 τ1 := ⟨xI_append h.1 hy, mI_append h.2.1 hu, (rs_append h.2.2 h.1 h.2.1 hy hu).1⟩
theorem st_append (h : Jv σ τ) (hy : y_append σ  k v σ1) (hu : u_append τ  r τ1) : Jv σ1 τ1 ∧ τ1.1 0 0 = k ∧ (0 ≤ k ∧ k ≤ 2) ∧ (k = 0 → v = r) ∧ -2147483648 ≤ r ∧ r ≤ 2147483647 := ⟨sj_append h  hy hu, (rs_append h.2.2 h.1 h.2.1 hy hu).2⟩
theorem sj_poke (h : Jv σ τ) (hb : -128 ≤ b ∧ b ≤ 127) (hy : y_poke σ i b k v σ1) (hu : u_poke τ i b r τ1) : Jv σ1 τ1 := ⟨xI_poke h.1 hb hy, mI_poke h.2.1 hb hu, (rs_poke h.2.2 h.1 h.2.1 hy hu).1⟩
theorem st_poke (h : Jv σ τ) (hb : -128 ≤ b ∧ b ≤ 127) (hy : y_poke σ i b k v σ1) (hu : u_poke τ i b r τ1) : Jv σ1 τ1 ∧ τ1.1 0 0 = k ∧ (0 ≤ k ∧ k ≤ 2) ∧ (k = 0 → v = r) ∧ -2147483648 ≤ r ∧ r ≤ 2147483647 := ⟨sj_poke h hb hy hu, (rs_poke h.2.2 h.1 h.2.1 hy hu).2⟩
theorem sj_take (h : Jv σ τ) (hy : y_take σ i k v σ1) (hu : u_take τ i r τ1) : Jv σ1 τ1 := ⟨xI_take h.1 hy, mI_take h.2.1 hu, (rs_take h.2.2 h.1 h.2.1 hy hu).1⟩
theorem st_take (h : Jv σ τ) (hy : y_take σ i k v σ1) (hu : u_take τ i r τ1) : Jv σ1 τ1 ∧ τ1.1 0 0 = k ∧ (0 ≤ k ∧ k ≤ 2) ∧ (k = 0 → v = r) ∧ -2147483648 ≤ r ∧ r ≤ 2147483647 := ⟨sj_take h  hy hu, (rs_take h.2.2 h.1 h.2.1 hy hu).2⟩
theorem sj_differ (h : Jv σ τ) (hy : y_differ σ b c k v σ1) (hu : u_differ τ b c r τ1) : Jv σ1 τ1 := ⟨xI_differ h.1 hy, mI_differ h.2.1 hu, (rs_differ h.2.2 h.1 hy hu).1⟩
end JV
end
section
/-! THE LAW: the class's world, the reference's, the array out, the script -/
def xS (A : Nat → Prop) (U : State) : Prop := x_st "UNASSIGNED_STACK" Bundle.steD A U U.heap ∧ x_st "SUPPRESSED_SENTINEL" Bundle.listD A U U.heap ∧ (∀ p ∈ x_strs, ∃ a, vk_R RXA p.1 p.2 a U) ∧ (∀ w ∈ x_nest, va_Nw w U) ∧ (∀ w ∈ x_keep, va_Nw w U) ∧ (va_Nc "java/lang/IllegalArgumentException" "java/lang/IndexOutOfBoundsException" U ∧ va_Nc "java/lang/UnsupportedOperationException" "java/lang/IllegalArgumentException" U ∧ va_Nc "java/lang/UnsupportedOperationException" "java/lang/IllegalStateException" U) ∧ ∃ t, va_Z RXA "FIRST_LINE" "[B" (.ref t) A U U.heap ∧ va_T .byte t 4 (fun j => .int (fI (x_fl j))) A U U.heap
theorem xS_on {A B : Nat → Prop} {s U : State} (hA : ∀ q, B q → A q) (hq : ∀ a : Nat, a < s.heap.size → ¬ A a → U.heap[a]? = s.heap[a]?) (hW : s.WarmedH U.vm) (h : xS A s) : xS B U := by
  obtain ⟨h1, h2, h3, h4, h7, ⟨h8, h9, h10⟩, t, h5, h6⟩ := h
  refine ⟨h1.on hW.alike hA hq, h2.on hW.alike hA hq, fun p hp => ?_, fun w hw => ?_, fun w hw => ?_, ⟨h8.moved hW.alike, h9.moved hW.alike, h10.moved hW.alike⟩, t, (va_Z.narrow (va_Z.moved hW.alike (h5.kept hq)) hA), (va_T.narrow (va_T.moved hW.alike (h6.kept hq)) hA)⟩
  · obtain ⟨a, ha⟩ := h3 p hp
    exact ⟨a, ha.warm hW⟩
  · have h9 := h4 w hw
    unfold x_nest at hw
    simp only [List.mem_cons, List.not_mem_nil, or_false] at hw
    rcases hw with rfl | rfl | rfl
    · exact va_Nw.warmM hW h9
    · exact va_Nw.warmF hW h9
    · exact va_Nw.warmF hW h9
  · have h9 := h7 w hw
    unfold x_keep at hw
    simp only [List.mem_cons, List.not_mem_nil, or_false] at hw
    have key : ∀ w : Cond, w.onTables = true → (w.before #[] (s.setVm U.vm) = w.before #[] s) → va_Nw w s → va_Nw w U := fun w ho he hn => va_Nw.same (u := s.setVm U.vm) ho rfl (he.trans hn)
    rcases hw with rfl | rfl | rfl | rfl | rfl | rfl | rfl
    · exact key _ rfl (Cond.declares_setVm hW.alike _) h9
    · exact key _ rfl (Cond.declares_setVm hW.alike _) h9
    · exact key _ rfl (Cond.declares_setVm hW.alike _) h9
    · exact key _ rfl (Cond.castable_setVm hW.alike _ _) h9
    · exact key _ rfl (Cond.castable_setVm hW.alike _ _) h9
    · exact key _ rfl (Cond.castable_setVm hW.alike _ _) h9
    · exact key _ rfl (Cond.castable_setVm hW.alike _ _) h9
abbrev lCl : List vw_C := (RM, TM, 32) :: xCl
def l_new (z : fZ) : Nat → Prop := fun q => z.2.2.2.2.1.heap.size ≤ q
def lj (z : fZ) (D : va_G) (cA : Nat → ClassId) (ad am : Nat → Nat) (a nL : Nat) (Q : State → Prop) (kc ks : Nat) (σ τ : fS) (v : Int) (pc : Nat) (lv : List (Option Value)) (st : List Value) : Prop :=
  ∀ (H : Heap) (locs : List Loc) (ls : Array Slot), f_W (xG D cA ad) σ H → f_W (mG xCl D cA am) τ H → h_out (cA 4) a v H → va_S (l_new z) z.2.2.2.2.1.heap H locs → f_has ls nL lv →
    W z.1 z.2.1 z.2.2.1 z.2.2.2.1 z.2.2.2.2.1 z.2.2.2.2.2.1 z.2.2.2.2.2.2.1 z.2.2.2.2.2.2.2.1 z.2.2.2.2.2.2.2.2.1 z.2.2.2.2.2.2.2.2.2 H locs kc ks Q (F0 z.2.2.2.2.2.1 pc ls st)
/-- what stands fast: 1 exec 2 code 3 locals 4 class 5 words 6 tables 7, 8 addresses apart, 9, 10 out apart, 11 the worlds apart, 12, 13, 14 all new, 15 surroundings, 16 the script -/
def lfc (z : fZ) (D : va_G) (cA : Nat → ClassId) (ad am : Nat → Nat) (a nL b L : Nat) (xs : Nat → Int32) (cc : ByteArray) (own : String) : Prop :=
  z.1.tables.exec = Jvm.exec ∧ z.2.2.2.2.2.2.2.2.2.code = cc ∧ z.2.2.2.2.2.2.2.2.2.maxLocals = nL ∧ z.2.2.2.2.1.vm.findClass own = some z.2.2.2.2.2.1.cls ∧ (∀ w ∈ A9, w.before z.2.2.2.2.2.2.1 z.2.2.2.2.1 = true) ∧ va_K D lCl (w_tys cA) z.2.2.2.2.1 ∧
  f_J (xG D cA ad) ∧ f_J (mG xCl D cA am) ∧ h_off (xG D cA ad) a ∧ h_off (mG xCl D cA am) a ∧ (∀ i j, i < 383 → j < 18 → ad i ≠ am j) ∧ (∀ i, i < 383 → l_new z (ad i)) ∧ (∀ j, j < 18 → l_new z (am j)) ∧ l_new z a ∧ xS (l_new z) z.2.2.2.2.1 ∧ va_X b L xs z.2.2.2.2.1 z.2.2.2.2.1.heap ∧ b < z.2.2.2.2.1.heap.size
section LA
variable {z : fZ} {D : va_G} {cA : Nat → ClassId} {ad am : Nat → Nat} {a nL b L : Nat} {xs : Nat → Int32} {cc : ByteArray} {own : String} {Q : State → Prop} {kc ks : Nat} {σ τ : fS} {v : Int} {pc : Nat} {lv : List (Option Value)} {st : List Value}
theorem l_iconst (C : lfc z D cA ad am a nL b L xs cc own) {i : Int} (d : decode cc pc = .ok (.iconst i, 1)) (k : lj z D cA ad am a nL Q kc ks σ τ v (pc + 1) lv (.int (fI i) :: st)) : lj z D cA ad am a nL Q kc ks σ τ v pc lv st :=
  fun H locs ls hP hM hO hS hl => lv_iconst C.1 C.2.1 d rfl (k H locs ls hP hM hO hS hl)
theorem l_bipush (C : lfc z D cA ad am a nL b L xs cc own) {i : Int} (d : decode cc pc = .ok (.bipush i, 2)) (hi : (Int8.ofInt i).toInt32 = fI i) (k : lj z D cA ad am a nL Q kc ks σ τ v (pc + 2) lv (.int (fI i) :: st)) : lj z D cA ad am a nL Q kc ks σ τ v pc lv st :=
  fun H locs ls hP hM hO hS hl => lv_bipush C.1 C.2.1 d hi (k H locs ls hP hM hO hS hl)
theorem l_iload (C : lfc z D cA ad am a nL b L xs cc own) {i : Nat} {x : Int32} (d : decode cc pc = .ok (.iload i, 2)) (hx : lv[i]? = some (some (.int x))) (kk : lj z D cA ad am a nL Q kc ks σ τ v (pc + 2) lv (.int x :: st)) : lj z D cA ad am a nL Q kc ks σ τ v pc lv st :=
  fun H locs ls hP hM hO hS hl => lv_iload C.1 C.2.1 d (hl.2.2.1 i _ hx) (kk H locs ls hP hM hO hS hl)
theorem l_aload_n (C : lfc z D cA ad am a nL b L xs cc own) {k : Fin 4} {i : Nat} {x : Nat} (d : decode cc pc = .ok (.aload_n k, 1)) (hi : (k : Nat) = i) (hx : lv[i]? = some (some (.ref x))) (kk : lj z D cA ad am a nL Q kc ks σ τ v (pc + 1) lv (.ref x :: st)) : lj z D cA ad am a nL Q kc ks σ τ v pc lv st :=
  fun H locs ls hP hM hO hS hl => lv_aload_n C.1 C.2.1 d hi (hl.2.2.1 i _ hx) (kk H locs ls hP hM hO hS hl)
theorem l_istore (C : lfc z D cA ad am a nL b L xs cc own) {i : Nat} {x : Int32} (d : decode cc pc = .ok (.istore i, 2)) (hn : i < nL) (kk : lj z D cA ad am a nL Q kc ks σ τ v (pc + 2) (lv.set i (some (.int x))) st) : lj z D cA ad am a nL Q kc ks σ τ v pc lv (.int x :: st) :=
  fun H locs ls hP hM hO hS hl => lv_istore C.1 C.2.1 d hl.lv hn rfl (fun ls' h' => kk H locs ls' hP hM hO hS (hl.put rfl h'))
theorem l_iadd (C : lfc z D cA ad am a nL b L xs cc own) {x y : Int} (d : decode cc pc = .ok (.iadd, 1)) (kk : lj z D cA ad am a nL Q kc ks σ τ v (pc + 1) lv (.int (fI (x + y)) :: st)) : lj z D cA ad am a nL Q kc ks σ τ v pc lv (.int (fI y) :: .int (fI x) :: st) :=
  fun H locs ls hP hM hO hS hl => lv_iadd C.1 C.2.1 d (by rw [fI_add]; exact kk H locs ls hP hM hO hS hl)
theorem l_isub (C : lfc z D cA ad am a nL b L xs cc own) {x y : Int} (d : decode cc pc = .ok (.isub, 1)) (kk : lj z D cA ad am a nL Q kc ks σ τ v (pc + 1) lv (.int (fI (x - y)) :: st)) : lj z D cA ad am a nL Q kc ks σ τ v pc lv (.int (fI y) :: .int (fI x) :: st) :=
  fun H locs ls hP hM hO hS hl => lv_isub C.1 C.2.1 d (by rw [fI_sub]; exact kk H locs ls hP hM hO hS hl)
theorem l_goto (C : lfc z D cA ad am a nL b L xs cc own) {off : Int} {tgt : Nat} (d : decode cc pc = .ok (.goto off, 3)) (ht : (pc : Int) + off = (tgt : Int)) (kk : lj z D cA ad am a nL Q kc ks σ τ v tgt lv st) : lj z D cA ad am a nL Q kc ks σ τ v pc lv st :=
  fun H locs ls hP hM hO hS hl => lv_goto C.1 C.2.1 d ht (kk H locs ls hP hM hO hS hl)
theorem l_iinc (C : lfc z D cA ad am a nL b L xs cc own) {i : Nat} {n x : Int} (d : decode cc pc = .ok (.iinc i n, 3)) (hx : lv[i]? = some (some (.int (fI x)))) (hn : i < nL) (kk : lj z D cA ad am a nL Q kc ks σ τ v (pc + 3) (lv.set i (some (.int (fI (x + n))))) st) : lj z D cA ad am a nL Q kc ks σ τ v pc lv st :=
  fun H locs ls hP hM hO hS hl => by
    obtain ⟨q, hq⟩ := List.getElem?_of_mem (f_lv_mem.mpr hx)
    exact lv_iinc C.1 C.2.1 d hl.lv hq (fI_add x n) hn rfl (fun ls' h' => kk H locs ls' hP hM hO hS (hl.put rfl h'))
theorem l_icmp_eq (C : lfc z D cA ad am a nL b L xs cc own) {x y off : Int} {tgt : Nat} (d : decode cc pc = .ok (.if_icmp .eq off, 3)) (ht : (pc : Int) + off = (tgt : Int)) (ha : -2147483648 ≤ x ∧ x ≤ 2147483647) (hb : -2147483648 ≤ y ∧ y ≤ 2147483647) (kt : x = y → lj z D cA ad am a nL Q kc ks σ τ v tgt lv st) (kf : ¬ x = y → lj z D cA ad am a nL Q kc ks σ τ v (pc + 3) lv st) : lj z D cA ad am a nL Q kc ks σ τ v pc lv (.int (fI y) :: .int (fI x) :: st) :=
  fun H locs ls hP hM hO hS hl => lv_icmp_eq C.1 C.2.1 d ht (fun h => kt ((fI_eq ha hb).mp h) H locs ls hP hM hO hS hl) (fun h => kf (fun q => h ((fI_eq ha hb).mpr q)) H locs ls hP hM hO hS hl)
theorem l_icmp_gt (C : lfc z D cA ad am a nL b L xs cc own) {x y off : Int} {tgt : Nat} (d : decode cc pc = .ok (.if_icmp .gt off, 3)) (ht : (pc : Int) + off = (tgt : Int)) (ha : -2147483648 ≤ x ∧ x ≤ 2147483647) (hb : -2147483648 ≤ y ∧ y ≤ 2147483647) (kt : y < x → lj z D cA ad am a nL Q kc ks σ τ v tgt lv st) (kf : ¬ y < x → lj z D cA ad am a nL Q kc ks σ τ v (pc + 3) lv st) : lj z D cA ad am a nL Q kc ks σ τ v pc lv (.int (fI y) :: .int (fI x) :: st) :=
  fun H locs ls hP hM hO hS hl => lv_icmp_gt C.1 C.2.1 d ht (fun h => kt ((fI_lt hb ha).mp h) H locs ls hP hM hO hS hl) (fun h => kf (fun q => h ((fI_lt hb ha).mpr q)) H locs ls hP hM hO hS hl)
theorem l_if_ne (C : lfc z D cA ad am a nL b L xs cc own) {x off : Int} {tgt : Nat} (d : decode cc pc = .ok (.ifCond .ne off, 3)) (ht : (pc : Int) + off = (tgt : Int)) (ha : -2147483648 ≤ x ∧ x ≤ 2147483647) (kt : ¬ x = 0 → lj z D cA ad am a nL Q kc ks σ τ v tgt lv st) (kf : x = 0 → lj z D cA ad am a nL Q kc ks σ τ v (pc + 3) lv st) : lj z D cA ad am a nL Q kc ks σ τ v pc lv (.int (fI x) :: st) :=
  fun H locs ls hP hM hO hS hl => lv_if_ne C.1 C.2.1 d ht (fun h => kt (fun q => h (by rw [q]; exact fI_0)) H locs ls hP hM hO hS hl) (fun h => kf ((fI_eq ha (by decide)).mp (by rw [fI_0]; exact h)) H locs ls hP hM hO hS hl)
theorem l_if_eq (C : lfc z D cA ad am a nL b L xs cc own) {x off : Int} {tgt : Nat} (d : decode cc pc = .ok (.ifCond .eq off, 3)) (ht : (pc : Int) + off = (tgt : Int)) (ha : -2147483648 ≤ x ∧ x ≤ 2147483647) (kt : x = 0 → lj z D cA ad am a nL Q kc ks σ τ v tgt lv st) (kf : ¬ x = 0 → lj z D cA ad am a nL Q kc ks σ τ v (pc + 3) lv st) : lj z D cA ad am a nL Q kc ks σ τ v pc lv (.int (fI x) :: st) :=
  fun H locs ls hP hM hO hS hl => lv_if_eq C.1 C.2.1 d ht (fun h => kt ((fI_eq ha (by decide : -2147483648 ≤ (0 : Int) ∧ (0 : Int) ≤ 2147483647)).mp (by rw [fI_0]; exact h)) H locs ls hP hM hO hS hl) (fun h => kf (fun q => h (by have h9 := (fI_eq ha (by decide : -2147483648 ≤ (0 : Int) ∧ (0 : Int) ≤ 2147483647)).mpr q; rw [fI_0] at h9; exact h9)) H locs ls hP hM hO hS hl)
theorem l_i2b (C : lfc z D cA ad am a nL b L xs cc own) {x : Int} (d : decode cc pc = .ok (.i2b, 1)) (kk : lj z D cA ad am a nL Q kc ks σ τ v (pc + 1) lv (.int (fI (x.bmod 256)) :: st)) : lj z D cA ad am a nL Q kc ks σ τ v pc lv (.int (fI x) :: st) :=
  fun H locs ls hP hM hO hS hl => lv_i2b C.1 C.2.1 d (fI_b x) (kk H locs ls hP hM hO hS hl)
theorem l_i2l (C : lfc z D cA ad am a nL b L xs cc own) {x : Int} (d : decode cc pc = .ok (.i2l, 1)) (hv : -2147483648 ≤ x ∧ x ≤ 2147483647) (kk : lj z D cA ad am a nL Q kc ks σ τ v (pc + 1) lv (.long (Int64.ofInt x) :: st)) : lj z D cA ad am a nL Q kc ks σ τ v pc lv (.int (fI x) :: st) :=
  fun H locs ls hP hM hO hS hl => lv_i2l C.1 C.2.1 d (fL_of x hv.1 hv.2) (kk H locs ls hP hM hO hS hl)
/-- two alike longs -/
theorem l_lcmp (C : lfc z D cA ad am a nL b L xs cc own) {x : Int64} (d : decode cc pc = .ok (.lcmp, 1)) (kk : lj z D cA ad am a nL Q kc ks σ τ v (pc + 1) lv (.int (fI 0) :: st)) : lj z D cA ad am a nL Q kc ks σ τ v pc lv (.long x :: .long x :: st) :=
  fun H locs ls hP hM hO hS hl => W.lcmp C.1 C.2.1 d (by rw [show lg_cmp x x = fI 0 by unfold lg_cmp; simp [fI_0]]; exact kk H locs ls hP hM hO hS hl)
theorem l_old (C : lfc z D cA ad am a nL b L xs cc own) : ¬ l_new z b := fun h => absurd C.2.2.2.2.2.2.2.2.2.2.2.2.2.2.2.2 (Nat.not_lt.mpr h)
theorem l_sld (C : lfc z D cA ad am a nL b L xs cc own) {i : Int} (hi : 0 ≤ i ∧ i < L) (hL : L ≤ 100000) (d : decode cc pc = .ok (.iaload, 1)) (kk : lj z D cA ad am a nL Q kc ks σ τ v (pc + 1) lv (.int (fI (xs i.toNat).toInt) :: st)) : lj z D cA ad am a nL Q kc ks σ τ v pc lv (.int (fI i) :: .ref b :: st) :=
  fun H locs ls hP hM hO hS hl => va_sld C.1 C.2.1 C.2.2.2.2.2.2.2.2.2.2.2.2.2.2.2.1 C.2.2.2.2.2.2.2.2.2.2.2.2.2.2.2.2 (l_old C) hS (fI_in hi.1 hi.2 (by omega)) d (by rw [fI_clamp hi.1 (by omega), fI_of (xs i.toNat)]; exact kk H locs ls hP hM hO hS hl)
theorem l_slen (C : lfc z D cA ad am a nL b L xs cc own) (d : decode cc pc = .ok (.arraylength, 1)) (kk : lj z D cA ad am a nL Q kc ks σ τ v (pc + 1) lv (.int (fI (L : Int)) :: st)) : lj z D cA ad am a nL Q kc ks σ τ v pc lv (.ref b :: st) :=
  fun H locs ls hP hM hO hS hl => va_slen C.1 C.2.1 C.2.2.2.2.2.2.2.2.2.2.2.2.2.2.2.1 C.2.2.2.2.2.2.2.2.2.2.2.2.2.2.2.2 (l_old C) hS d (by rw [fI_nat]; exact kk H locs ls hP hM hO hS hl)
theorem l_tIn (C : lfc z D cA ad am a nL b L xs cc own) {dflt lo hi off x : Int} {offs : Array Int} {len tgt : Nat} (d : decode cc pc = .ok (.tableswitch dflt lo hi offs, len)) (hx : -2147483648 ≤ x ∧ x ≤ 2147483647) (h1 : lo ≤ x) (h2 : x ≤ hi) (ho : offs[(x - lo).toNat]? = some off) (ht : (pc : Int) + off = (tgt : Int)) (kk : lj z D cA ad am a nL Q kc ks σ τ v tgt lv st) : lj z D cA ad am a nL Q kc ks σ τ v pc lv (.int (fI x) :: st) :=
  fun H locs ls hP hM hO hS hl => lv_tableIn C.1 C.2.1 d (by rw [fI_toInt hx.1 hx.2]; omega) (by rw [fI_toInt hx.1 hx.2]; omega) (by rw [fI_toInt hx.1 hx.2]; exact ho) ht (kk H locs ls hP hM hO hS hl)
/-- out's element -/
theorem l_lald (C : lfc z D cA ad am a nL b L xs cc own) (d : decode cc pc = .ok (.laload, 1)) (kk : lj z D cA ad am a nL Q kc ks σ τ v (pc + 1) lv (.long (Int64.ofInt v) :: st)) : lj z D cA ad am a nL Q kc ks σ τ v pc lv (.int (fI 0) :: .ref a :: st) := by
  intro H locs ls hP hM hO hS hl
  obtain ⟨f, h1, h2⟩ := id hO
  have hPo : va_P D lCl [(a, .inl (cA 4, 1, .inr (.inl f)))] H := fun k q hq => by
    cases k with
    | zero => simp at hq; subst hq; exact h1
    | succ k => simp at hq
  have hz : (fI 0).toNatClampNeg = 0 := by rw [fI_0]; rfl
  refine va_lald C.1 C.2.1 C.2.2.2.2.2.1 hPo 0 4 rfl rfl (fI_in (by decide) (by decide) (by decide)) d ?_
  rw [hz, h2]
  exact kk H locs ls hP hM hO hS hl
theorem l_kept {G : fG} {σ : fS} {H H1 : Heap} {B : Nat → Prop} (hP : f_W G σ H) (hk : ∀ q : Nat, q < H.size → ¬ B q → H1[q]? = H[q]?) (hB : ∀ k, k < G.2.2.2.2.2.2 → G.2.2.2.1 k < H.size → ¬ B (G.2.2.2.1 k)) : f_W G σ H1 := fun k q hq => by
  obtain ⟨hkn, rfl⟩ := f_w_inv hq
  have h9 := hP k _ (f_w_get hkn)
  exact h9.kept (hk _ h9.lt (hB k hkn h9.lt))
theorem l_okept {H H1 : Heap} {B : Nat → Prop} {cL : ClassId} {a : Nat} {v : Int} (hO : h_out cL a v H) (hk : ∀ q : Nat, q < H.size → ¬ B q → H1[q]? = H[q]?) (hB : a < H.size → ¬ B a) : h_out cL a v H1 := by
  obtain ⟨f, h1, h2⟩ := hO
  have hlt := (Array.getElem?_eq_some_iff.mp h1).1
  exact ⟨f, by rw [hk a hlt (hB hlt)]; exact h1, h2⟩
theorem l_Am (C : lfc z D cA ad am a nL b L xs cc own) {H : Heap} (h : z.2.2.2.2.1.heap.size ≤ H.size) (q : Nat) (hq : f_A (mG xCl D cA am) H.size q) : l_new z q := by
  rcases hq with ⟨k, hk, e⟩ | hq
  · rw [e]; exact C.2.2.2.2.2.2.2.2.2.2.2.2.1 k hk
  · exact Nat.le_trans h hq
theorem l_Ax (C : lfc z D cA ad am a nL b L xs cc own) {H : Heap} (h : z.2.2.2.2.1.heap.size ≤ H.size) (q : Nat) (hq : f_A (xG D cA ad) H.size q) : l_new z q := by
  rcases hq with ⟨k, hk, e⟩ | hq
  · rw [e]; exact C.2.2.2.2.2.2.2.2.2.2.2.1 k hk
  · exact Nat.le_trans h hq
theorem l_mx (C : lfc z D cA ad am a nL b L xs cc own) {H : Heap} (k : Nat) (hk : k < 383) (hl : ad k < H.size) : ¬ f_A (mG xCl D cA am) H.size (ad k) := by
  rintro (⟨j, hj, e⟩ | h)
  · exact C.2.2.2.2.2.2.2.2.2.2.1 k j hk hj e
  · omega
theorem l_xm (C : lfc z D cA ad am a nL b L xs cc own) {H : Heap} (k : Nat) (hk : k < 18) (hl : am k < H.size) : ¬ f_A (xG D cA ad) H.size (am k) := by
  rintro (⟨j, hj, e⟩ | h)
  · exact C.2.2.2.2.2.2.2.2.2.2.1 j k hj hk e.symm
  · omega
/-- a method of the reference: it answers an int -/
theorem l_mI (C : lfc z D cA ad am a nL b L xs cc own) {dd : Nat} (hR : dd ≤ z.2.2.2.1.frames ∧ 40 * dd ≤ z.2.2.2.1.locals ∧ kc ≤ z.2.2.2.1.cells ∧ ks ≤ z.2.2.2.1.slots) {y : MethodName} {bytes : ByteArray} {maxL d index np : Nat} {ret : Option FieldType} {As : List Value} {post : Int → fS → Prop}
    (hM : f_M z.2.1 (mG xCl D cA am) mE y (Cond.code y bytes maxL ret :: A9) d τ (.ref (am 0) :: As) (f_QI post (mG xCl D cA am))) (dg : decode cc pc = .ok (.invokevirtual index, 3)) (hg : GoodIn A9 (wsV own index RM y (Cond.code y bytes maxL ret :: A9)))
    (hd : y.cls = RM ∧ y.cls ≠ "java/lang/invoke/MethodHandle" ∧ y.cls ≠ "java/lang/invoke/VarHandle" ∧ (parseMethodDescriptor y.desc).map (fun d => d.parameters.length) = some np) (hlev : d + 1 ≤ dd) (hml : maxL ≤ 21) (hn : As.length = np) (hst : (st.map fun v => v.category).sum ≤ 8) {st0 : List Value} (hst0 : st0 = As.reverse ++ .ref (am 0) :: st)
    (kk : ∀ (r : Int) (τ' : fS), post r τ' → lj z D cA ad am a nL Q kc ks σ τ' v (pc + 3) lv (.int (fI r) :: st)) : lj z D cA ad am a nL Q kc ks σ τ v pc lv st0 := by
  intro H locs ls hP hMw hO hS hl
  subst hst0
  obtain ⟨r1, r2, r3, r4⟩ := hR
  refine va_calli (va_runV (As := As) (rest := st) ⟨C.1, C.2.1, C.2.2.1, C.2.2.2.1, C.2.2.2.2.1⟩ (hM H.size) (cwV np C.2.2.2.2.1 hg rfl rfl rfl hd ⟨Nat.le_trans hlev r1, by show 8 + (maxL + 11) + 40 * d ≤ _; omega⟩) ⟨f_blind (mE_ok _), va_recv C.2.2.2.2.2.1 hMw (ci := 0) rfl (f_at1 (G := mG xCl D cA am) (k := 0) (by show (0 : Nat) < 18; decide) rfl), fun U hU hW => ⟨rfl, by rw [hU], by rw [hU]; exact hMw, va_K.moved hW.alike C.2.2.2.2.2.1, trivial⟩⟩ rfl hn hl.1 rfl (lv_room hst) dg ⟨r3, r4⟩) hS (fun q _ h => l_Am C hS.1 q h) (fun q h => l_Am C hS.1 q h) ?_
  intro r u t H1 locs1 ht _ hwp hB _ hk hS1
  obtain ⟨rfl, hp⟩ := hwp
  exact kk u.1 u.2 hp H1 locs1 ls (l_kept hP hk (fun k hk2 hl2 => l_mx C k hk2 hl2)) (by rw [← ht]; exact hB) (l_okept hO hk (fun hl2 => by
    rintro (⟨j, hj, e⟩ | h)
    · exact C.2.2.2.2.2.2.2.2.2.1 j hj e
    · omega)) hS1 hl
theorem l_mV (C : lfc z D cA ad am a nL b L xs cc own) {dd : Nat} (hR : dd ≤ z.2.2.2.1.frames ∧ 40 * dd ≤ z.2.2.2.1.locals ∧ kc ≤ z.2.2.2.1.cells ∧ ks ≤ z.2.2.2.1.slots) {y : MethodName} {bytes : ByteArray} {maxL d index np : Nat} {ret : Option FieldType} {As : List Value} {post : fS → Prop}
    (hM : f_M z.2.1 (mG xCl D cA am) mE y (Cond.code y bytes maxL ret :: A9) d τ (.ref (am 0) :: As) (f_QV post (mG xCl D cA am))) (dg : decode cc pc = .ok (.invokevirtual index, 3)) (hg : GoodIn A9 (wsV own index RM y (Cond.code y bytes maxL ret :: A9)))
    (hd : y.cls = RM ∧ y.cls ≠ "java/lang/invoke/MethodHandle" ∧ y.cls ≠ "java/lang/invoke/VarHandle" ∧ (parseMethodDescriptor y.desc).map (fun d => d.parameters.length) = some np) (hlev : d + 1 ≤ dd) (hml : maxL ≤ 21) (hn : As.length = np) (hst : (st.map fun v => v.category).sum ≤ 8) {st0 : List Value} (hst0 : st0 = As.reverse ++ .ref (am 0) :: st)
    (kk : ∀ (τ' : fS), post τ' → lj z D cA ad am a nL Q kc ks σ τ' v (pc + 3) lv st) : lj z D cA ad am a nL Q kc ks σ τ v pc lv st0 := by
  intro H locs ls hP hMw hO hS hl
  subst hst0
  obtain ⟨r1, r2, r3, r4⟩ := hR
  refine va_callv (va_runV (As := As) (rest := st) ⟨C.1, C.2.1, C.2.2.1, C.2.2.2.1, C.2.2.2.2.1⟩ (hM H.size) (cwV np C.2.2.2.2.1 hg rfl rfl rfl hd ⟨Nat.le_trans hlev r1, by show 8 + (maxL + 11) + 40 * d ≤ _; omega⟩) ⟨f_blind (mE_ok _), va_recv C.2.2.2.2.2.1 hMw (ci := 0) rfl (f_at1 (G := mG xCl D cA am) (k := 0) (by show (0 : Nat) < 18; decide) rfl), fun U hU hW => ⟨rfl, by rw [hU], by rw [hU]; exact hMw, va_K.moved hW.alike C.2.2.2.2.2.1, trivial⟩⟩ rfl hn hl.1 rfl (lv_room hst) dg ⟨r3, r4⟩) hS (fun q _ h => l_Am C hS.1 q h) (fun q h => l_Am C hS.1 q h) ?_
  intro u t H1 locs1 ht _ hp hB _ hk hS1
  exact kk u hp H1 locs1 ls (l_kept hP hk (fun k hk2 hl2 => l_mx C k hk2 hl2)) (by rw [← ht]; exact hB) (l_okept hO hk (fun hl2 => by
    rintro (⟨j, hj, e⟩ | h)
    · exact C.2.2.2.2.2.2.2.2.2.1 j hj e
    · omega)) hS1 hl
theorem l_E (C : lfc z D cA ad am a nL b L xs cc own) {H : Heap} {locs : List Loc} (hS : va_S (l_new z) z.2.2.2.2.1.heap H locs) (U : State) (hU : U.heap = H) (hW : z.2.2.2.2.1.WarmedH U.vm) : xE (xG D cA ad) H.size U :=
  xS_on (A := l_new z) (B := f_A (xG D cA ad) H.size) (fun q h => l_Ax C hS.1 q h) (by rw [hU]; exact hS.2.1) hW C.2.2.2.2.2.2.2.2.2.2.2.2.2.2.1
/-- a helper of the law's own -/
theorem l_h (C : lfc z D cA ad am a nL b L xs cc own) {dd mc ms : Nat} (hR : dd ≤ z.2.2.2.1.frames ∧ 40 * dd ≤ z.2.2.2.1.locals ∧ kc + mc ≤ z.2.2.2.1.cells ∧ ks + ms ≤ z.2.2.2.1.slots) {y : MethodName} {bytes : ByteArray} {maxL d index np : Nat} {hh : List (Nat × Nat × Nat × Nat)} {As : List Value} {post : Int → Int → fS → Prop}
    (hM : h_M z.2.1 (xG D cA ad) (cA 4) a y (Cond.codeWith y bytes maxL (some .int) hh :: A9) d mc ms σ v As post) (dg : decode cc pc = .ok (.invokestatic index, 3)) (hlk : Cond.methodLink own index y ∈ A9) (hst9 : Cond.static y ∈ A9) (hin9 : Cond.initialized y.cls ∈ A9) (hw9 : Cond.codeWith y bytes maxL (some .int) hh ∈ A9)
    (hd : y.cls ≠ "java/lang/invoke/MethodHandle" ∧ y.cls ≠ "java/lang/invoke/VarHandle" ∧ (parseMethodDescriptor y.desc).map (fun d => d.parameters.length) = some np) (hlev : d + 1 ≤ dd) (hml : maxL ≤ 21) (hn : As.length = np) (hst : (st.map fun v => v.category).sum ≤ 8) {st0 : List Value} (hst0 : st0 = As.reverse ++ st)
    (kk : ∀ (k v' : Int) (σ' : fS), post k v' σ' → lj z D cA ad am a nL Q (kc + mc) (ks + ms) σ' τ v' (pc + 3) lv (.int (fI k) :: st)) : lj z D cA ad am a nL Q kc ks σ τ v pc lv st0 := by
  intro H locs ls hP hMw hO hS hl T0 hT X0
  subst hst0
  obtain ⟨r1, r2, r3, r4⟩ := hR
  have w := C.2.2.2.2.1
  have hbl : FrameBlind (h_Pc (xG D cA ad) (cA 4) a H.size σ v As) := fun a' U g mk q => by
    obtain ⟨q0, q1, qP, qK, qE, qO⟩ := q
    exact ⟨q0, q1, qP, va_K.moved (u := U) (U := U.calling g mk a') (Vm.Alike.refl U.vm) qK, (xE_ok (xG D cA ad)).2 _ _ _ _ _ qE, qO⟩
  have hK : Back z.2.1 z.2.2.2.1 z.1 z.2.2.1 z.2.2.2.2.2.2.2.1 z.2.2.2.2.1 z.2.2.2.2.2.2.1 y 3 8 (PreOf z.2.2.2.1 mc ms (h_Pc (xG D cA ad) (cA 4) a H.size σ v As)) (PostOf (h_Q (xG D cA ad) (cA 4) a post H.size) mc ms (h_A (xG D cA ad) a H.size)) :=
    va_backW (hh := hh) (bytes := bytes) (maxL := maxL) (ret := some .int) (hM H.size) hbl rfl rfl (Nat.le_trans hlev r1) (by show 8 + (maxL + 11) + 40 * d ≤ _; omega) (fun w' h' a' U hW => (List.mem_cons.mp h').elim (fun e => by rw [e]; exact word_at hW (good9 hw9) (w _ hw9)) (fun h' => word_at hW (good9 h') (w _ h'))) List.mem_cons_self (fun a' U hW => word_at hW (good9 hin9) (w _ hin9))
  obtain ⟨mk, methM, cM, hnamed, hmethM, -, -, -, -, -, -, hsigM⟩ := Cond.codeWith_spec (w _ hw9)
  have hstatic : methM.isStatic = true := Cond.static_spec hnamed hmethM (w _ hst9)
  obtain ⟨kP, hkP, -⟩ := className_of_methodNamed hnamed
  have hinitP : kP.init = .initialized := Cond.initialized_spec (findClass_of_methodNamed hnamed) hkP (w _ hin9)
  have hdg9 : decode z.2.2.2.2.2.2.2.2.2.code pc = .ok (.invokestatic index, 3) := by rw [C.2.1]; exact dg
  have hlen : As.length = methM.sig.parameters.length := by
    have h2 := hd.2.2
    rw [hsigM] at h2
    exact hn.trans (Option.some.inj h2).symm
  obtain ⟨vm1, X1, hstep1⟩ := X0.invokestatic C.1 C.2.2.2.1 (w _ hlk) hnamed hmethM hstatic hkP hinitP ⟨hd.1, hd.2.1⟩ (g := F0 z.2.2.2.2.2.1 pc ls (As.reverse ++ st)) rfl (argsL := As) (rest := st) hlen rfl hdg9
  obtain ⟨rv, ⟨U', l2, c2, s2⟩, X2, ⟨g', mk', t, L2, e1, e2, hq, h1, hL, h2, h3⟩, hsteps⟩ := hK z.2.2.2.2.2.1 z.2.2.2.2.2.2.2.2.1 z.2.2.2.2.2.2.2.2.2 ⟨T0.setVm vm1, locs, kc, ks⟩ (F0 z.2.2.2.2.2.1 pc ls st) (.invokestatic index) mk As.toArray X1 rfl (hl.1.trans C.2.2.1.symm) hdg9 (lv_room hst) (X1.named hnamed) ⟨r3, r4, rfl, by show T0.heap.size = _; rw [hT], by show f_W _ _ T0.heap; rw [hT]; exact hP, va_K.moved X1.warmed.alike C.2.2.2.2.2.1, l_E C hS (T0.setVm vm1) hT X1.warmed, by show h_out _ _ _ T0.heap; rw [hT]; exact hO⟩
  dsimp only [Pt.U, Pt.locs, Pt.cells, Pt.slots] at X2 e1 e2 h1 h2 h3 hsteps
  subst h1; subst h2; subst h3
  obtain ⟨⟨k, v', u, hoc, hp, hfw, ho2⟩, hF⟩ := hq
  cases hoc
  have hk : ∀ q : Nat, q < H.size → ¬ h_A (xG D cA ad) a H.size q → U'.heap[q]? = H[q]? := fun q g1 g2 => by
    rw [e1]
    have h9 := hF.2 q (by show q < T0.heap.size; rw [hT]; exact g1) g2
    rw [h9]
    show T0.heap[q]? = _
    rw [hT]
  have hsz : H.size ≤ U'.heap.size := by
    rw [e1]
    have h9 : T0.heap.size ≤ t.heap.size := hF.1
    rw [hT] at h9
    exact h9
  have hA : ∀ q, h_A (xG D cA ad) a H.size q → l_new z q := fun q h => h.elim (fun h => l_Ax C hS.1 q h) (fun h => by rw [h]; exact C.2.2.2.2.2.2.2.2.2.2.2.2.2.1)
  have hS2 : va_S (l_new z) z.2.2.2.2.1.heap U'.heap (locs ++ L2) := ⟨Nat.le_trans hS.1 hsz, fun q g1 g2 => by
      rw [hk q (Nat.lt_of_lt_of_le g1 hS.1) (fun h => g2 (hA q h))]
      exact hS.2.1 q g1 g2, fun x hx => (List.mem_append.mp hx).elim (fun h => hS.2.2 x h) (fun h => hA _ (hL x h))⟩
  obtain ⟨t2, a1, b1⟩ := kk k v' u hp U'.heap (locs ++ L2) ls (by rw [e1]; exact hfw) (l_kept hMw hk (fun k hk2 hl2 => by
      rintro (h | h)
      · exact l_xm C k hk2 hl2 h
      · exact C.2.2.2.2.2.2.2.2.2.1 k hk2 h.symm)) (by rw [e1]; exact ho2) hS2 hl U' rfl X2
  exact ⟨t2, hstep1 _ (fun acts => by rw [doInvoke_state]; exact hsteps.trans a1), b1⟩
end LA
end
