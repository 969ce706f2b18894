/-! ===== a place of the script ===== -/
def cel (L : Nat) (xs : Nat → Int32) (k : Nat) : Int32 := if k < L then xs k else 0
theorem cell_body {p : Program} {l : Launch} {e : Env} {R : Room} {s : State} {m : MethodId} {args : Array Value} {below : List Frame} {meth : Method} {c : Code} {A : Nat → Prop} (D : va_G) (bs L : Nat) (xs : Nat → Int32) (k : Nat) (hk : k < 2 ^ 31) (hL : L < 2 ^ 31) (hx : p.tables.exec = Jvm.exec) (hb : c.code = cL_cell) (hr : meth.sig.returnType = some .int) (hlocks : meth.locks = false) (hX : va_X bs L xs s s.heap) (hbl : bs < s.heap.size) (hbA : ¬ A bs) : W p l e R s m args below meth c s.heap [] 0 0 (MQ below (QI (fun (r : Int32) (_ : Unit) => r = cel L xs k) (fun (_ : Unit) => []) D A) args s 0 0 A) (entryFrame m ([.ref bs, .int (nI k)] : List Value).toArray 2) := by
  have hS : va_S A s.heap s.heap [] := va_S.rf
  have hP : va_P D vwCl [] s.heap := fun k q h => by simp at h
  have hD : va_D A [] := ⟨fun i j p q h => by simp at h, fun k q h => by simp at h⟩
  have hl := lv_entry ([.ref bs, .int (nI k)]) (n := 2) (Nat.le_of_ble_eq_true rfl)
  rw [lg_entry_eq]
  generalize (lg_sl ([.ref bs, .int (nI k)]) ++ List.replicate (2 - (lg_sl ([.ref bs, .int (nI k)])).length) Slot.unset).toArray = ls at hl ⊢
  have hl : lv_has ls 2 [(0, .ref bs), (1, .int (nI k))] := hl
  refine lv_iload_n hx hb dL_cell_0 rfl (lv_at hl 1 rfl) ?_
  refine lv_aload_n hx hb dL_cell_1 rfl (lv_at hl 0 rfl) ?_
  refine va_slen hx hb hX hbl hbA hS dL_cell_2 ?_
  refine lv_icmp_ge (tgt := 12) hx hb dL_cell_3 (by decide) (fun c3 => ?_) (fun c3 => ?_)
  · have k3 : L ≤ k := (nI_leI (a := L) (b := k) hL hk).mp c3
    refine lv_iconst (v := 0) hx hb dL_cell_12 rfl ?_
    exact rt_i () hx hb hr hlocks dL_cell_13 hS hP hD (show (0 : Int32) = cel L xs k from (if_neg (by omega)).symm)
  · have k3 : ¬ L ≤ k := fun z => c3 ((nI_leI (a := L) (b := k) hL hk).mpr z)
    refine lv_aload_n hx hb dL_cell_6 rfl (lv_at hl 0 rfl) ?_
    refine lv_iload_n hx hb dL_cell_7 rfl (lv_at hl 1 rfl) ?_
    refine va_sld hx hb hX hbl hbA hS (vp_in_nI (by omega) hL) dL_cell_8 ?_
    refine lv_goto (tgt := 13) hx hb dL_cell_9 (by decide) ?_
    exact rt_i () hx hb hr hlocks dL_cell_13 hS hP hD (show xs (nI k).toNatClampNeg = cel L xs k by rw [nI_clamp hk]; exact (if_pos (by omega)).symm)
def PX (bs L : Nat) (xs : Nat → Int32) (k sz : Nat) : Array Value → State → Prop := va_Pc [.ref bs, .int (nI k)] (fun U => U.heap.size = sz ∧ va_X bs L xs U U.heap ∧ bs < sz)
theorem c_L_cell (l : Launch) (D : va_G) (sz bs L : Nat) (xs : Nat → Int32) (k : Nat) (hk : k < 2 ^ 31) (hL : L < 2 ^ 31) : Met l yL_cell wsL_cell ({ frames := 0, cells := 0, slots := 0, locals := 0 }) (PX bs L xs k sz) (QI (fun (r : Int32) (_ : Unit) => r = cel L xs k) (fun (_ : Unit) => []) D (va_A [] sz)) 0 0 (va_A [] sz) := by
  refine Met.ofW (cc := cL_cell) (maxL := 2) (ret := (some .int)) (by decide) rfl ?_
  intro p e s m args below meth c s₁ B hml hv
  obtain ⟨rfl, hsz, hX, hbl⟩ := hv
  subst hsz
  exact cell_body D bs L xs k hk hL B.exec B.bytes B.returns B.notSynchronized hX hbl (fun h => by
    rcases h with ⟨k, e, h⟩ | h
    · simp at h
    · omega)
section RC
variable {p : Program} {l : Launch} {e : Env} {R : Room} {s : State} {m : MethodId} {args : Array Value} {below : List Frame} {meth : Method} {c : Code} {H : Heap} {locs : List Loc} {cells slots : Nat} {Q : State → Prop}
variable {cc : ByteArray} {pc : Nat} {ls : Array Slot} {rest : List Value} {D : va_G} {A : Nat → Prop} {ws : va_W}
/-- the law asks for a place of the script -/
theorem ca_cell {bs L k : Nat} {xs : Nat → Int32} (hk : k < 2 ^ 31) (hL : L < 2 ^ 31) (S0 : CallFix p m c cc 4 s args wsL_law RL) (hX : va_X bs L xs s s.heap) (hbl : bs < s.heap.size) (hbA : ¬ A bs) (hP : va_P D vwCl ws H) (hD : va_D A ws) (hS : va_S A s.heap H locs) (hA : ∀ q, s.heap.size ≤ q → A q) (hfr : 1 ≤ R.frames) (hlo : 21 ≤ R.locals) (hsize : ls.size = 4) (hW : (rest.map fun v => v.category).sum ≤ 8) (hdg : decode cc pc = .ok (.invokestatic 9, 3)) (hf : cells + 0 ≤ R.cells ∧ slots + 0 ≤ R.slots)
    (kk : ∀ (H1 : Heap) (locs1 : List Loc), va_P D vwCl ws H1 → va_D A ws → va_S A s.heap H1 locs1 → W p l e R s m args below meth c H1 locs1 cells slots Q (F0 m (pc + 3) ls (.int (cel L xs k) :: rest))) : W p l e R s m args below meth c H locs cells slots Q (F0 m pc ls (.int (nI k) :: .ref bs :: rest)) := by
  have hF := va_free (wc := []) hD hS hA [] rfl
  have hM := c_L_cell l D H.size bs L xs k hk hL
  obtain ⟨hx, hb, hml, hown, hts⟩ := S0
  refine va_calli (va_runS (As := [.ref bs, .int (nI k)]) (rest := rest) ⟨hx, hb, hml, hown, hts⟩ hM (va_cwS 2 hts gL_law_L_cell rfl rfl rfl (by decide +kernel) ⟨hfr, hlo⟩) ⟨fun a U g mk h => h, fun U hU hW9 => ⟨rfl, by rw [hU], ?_, Nat.lt_of_lt_of_le hbl hS.1⟩⟩ rfl rfl hsize rfl (by show 2 * 0 + _ ≤ 8; omega) hdg hf) hS (fun q _ h => hF q h) hF (fun r u t H1 locs1 ht _ hw hB _ hk1 hS1 => ?_)
  · rw [hU]
    exact (va_X.kept hX (hS.2.1 bs hbl hbA)).moved hW9.alike
  · obtain rfl := hw
    refine kk H1 locs1 (hP.kept (fun i q hq => ?_)) hD hS1
    exact hk1 q.1 ((hP i q hq).lt) (fun h => by
      rcases h with ⟨_, _, h⟩ | h
      · simp at h
      · exact absurd ((hP i q hq).lt) (Nat.not_lt.mpr h))
end RC
