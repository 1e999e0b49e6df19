section AMW
variable {K : am_K} {D : va_G} {l : Launch} {P : am_P} {Y : Nat → am_Yt} {V : Nat → Prop}
theorem am_nsw {K : am_K} {s : State} {args : Array Value} (hE : am_E K s) : ∀ w ∈ am_ns K, w.before args s = true := by
  intro w hw
  obtain ⟨h, hz⟩ := hE.2.2.2.2.2.2.2.2.1 w hw
  rcases h with ⟨a, i, x, h, rfl⟩ | ⟨a, b, rfl⟩ | ⟨x, rfl⟩ <;> exact va_Nw.use rfl hz
theorem am_xn_fit (a : Nat) : Bundle.fit (am_xn a) = true := by
  unfold am_xn; split <;> decide +kernel
theorem am_names_fit : ∀ n ∈ am_names, Bundle.fit n = true := by decide +kernel
theorem am_body.sub {V2 : Nat → Prop} (hsub : ∀ y, V y → V2 y) {n : Nat} (h : am_body K D l P Y n V2) : am_body K D l P Y n V := fun d g y pc L st M o M' hr hv => h d g y pc L st M o M' hr (hsub y hv)
/-- what the walk wants of a method's rows -/
def am_rows (P : am_P) (Y : Nat → am_Yt) (V : Nat → Prop) (sr : am_SR) (ns : List Jvm.Cond) (nc : List (String × String)) (y : Nat) : Prop :=
  am_rk (P y).2.2.2.1 (Y y).2.2.1 ∧
  (∀ pc i kd a b, (P y).1 pc = some (i, kd, a, b) → decode (Y y).2.1 pc = .ok (i, am_len pc i) ∧
    (kd < 100 → am_op sr (Y y).1.cls (decide ((Y y).1.name = "<init>")) pc i kd a b) ∧
    (kd = 100 → i = (match (P y).2.2.2.1 with | 0 => .return_ | 2 => .lreturn | 3 => .areturn | _ => .ireturn)) ∧
    (kd = 101 → am_throw ns (Y y).1.cls (Y y).2.1 pc i a ∧ (Y y).2.2.2 = []) ∧
    (102 ≤ kd → V a ∧ am_call P Y ns (Y y).1.cls i kd a b)) ∧
  (∀ pc E r, (P y).2.1 pc E = some r → am_hnd ns nc (Y y).1.cls (Y y).2.2.2 pc E r)
set_option maxHeartbeats 4000000 in
/-- THE WALK: what the abstract machine runs, the JVM runs -/
theorem am_walk {V2 : Nat → Prop} (hG : am_good P Y V (am_sr K) (am_ns K) (am_nc K)) (hG2 : ∀ y, V2 y → am_rows P Y V (am_sr K) (am_ns K) (am_nc K) y) (hsub : ∀ y, V y → V2 y) (hl : l.stackTraces = false) (hcls : am_cls) : ∀ n, am_body K D l P Y n V2 := by
  intro n
  induction n with
  | zero => intro d g y pc L st M o M' h; cases h
  | succ n ih =>
    intro d g y pc L st M o M' hrun hV p e R s m args below meth c ad M0 ad0 H locs ls cells slots mc ms hc htab hret hn hext hle hmc hms hRc hRs
    obtain ⟨g6, g7, g8⟩ := hG2 y hV
    obtain ⟨hx, hb, hml, hown, hts, hK, hE, hb0, hR1, hR2, hd1, hlk, hst9, hini⟩ := id hc
    have hfr : ∀ z ∈ locs, am_A (am_b0 K) z.base := hn.2.2.1.2.2
    unfold am_run at hrun
    split at hrun
    · cases hrun
    · rename_i i kd a b hi
      obtain ⟨hdg, q1, q2, q3, q4⟩ := g7 pc i kd a b hi
      split at hrun
      · rename_i hkd
        split at hrun
        · cases hrun
        · rename_i pc1 L1 st1 M1 hs
          have l1 := am_step_le hs
          have l2 := am_run_le _ _ _ _ _ _ _ _ _ _ hrun
          have c1 := l1.2.1
          have c2 := l2.2.1
          have s1 := l1.2.2
          have s2 := l2.2.2
          dsimp only at c1 s1
          refine am_step_ok (S := (pc1, L1, st1, M1)) hc hcls hdg (q1 hkd) hs hn (by dsimp only; omega) (by dsimp only; omega) ?_
          intro ad' H1 locs1 ls1 he hn1
          exact ih d g y pc1 L1 st1 M1 o M' hrun hV hc htab hret hn1 (fun k hk => (he k (by rw [hle.1 k hk]; exact hk)).trans (hext k hk)) (hle.tr l1) (by dsimp only; omega) (by dsimp only; omega) hRc hRs
      · split at hrun
        · rename_i hkd
          split at hrun
          · cases hrun
          · rename_i v hv
            cases hrun
            rw [Nat.sub_self, Nat.add_zero] at hmc hms
            subst hmc; subst hms
            refine vx_ret ?_
            have hi2 := q2 hkd
            have hfin := fun hv9 => am_fin (ad0 := ad0) (M0 := M0) (v := v) (args := args) hn hext hv9
            generalize (P y).2.2.2.1 = rk at hv hi2 g6
            unfold am_ret at hv
            split at hv
            · cases hv
              subst hi2
              exact W.vret hx hb (hret.trans g6) (fun t h1 h2 => hfin (fun x hx => nomatch hx) t h1 h2) hfr hdg hlk
            · cases hv
              subst hi2
              exact W.iret hx hb (hret.trans g6) (fun t h1 h2 => hfin (fun x hx => by cases hx; trivial) t h1 h2) hfr hdg hlk
            · cases hv
              subst hi2
              exact W.lret hx hb (hret.trans g6) (fun t h1 h2 => hfin (fun x hx => by cases hx; trivial) t h1 h2) hfr hdg hlk
            · rename_i k
              cases hv
              subst hi2
              obtain ⟨nm, g6'⟩ := g6
              have hk : ¬ am_tg M k = 0 := hn.2.2.2.2.2 (.ref k) List.mem_cons_self
              refine W.aret (v := ad k) hx hb (hret.trans g6') (Or.inl ⟨nm, rfl⟩) ?_ (fun t h1 h2 => hfin (fun x hx => by cases hx; exact hk) t h1 h2) hfr hdg hlk
              rcases hn.1.2.2.2.2.2.2 k hk with ⟨a, q⟩ | q
              · exact Or.inr ⟨a, q⟩
              · exact Or.inl q
            · split at hv
              · rename_i hnw
                cases hv
                subst hi2
                exact W.zret hx hb (hret.trans g6) hnw (fun t h1 h2 => hfin (fun x hx => by cases hx; trivial) t h1 h2) hfr hdg hlk
              · cases hv
            · split at hv
              · rename_i hnw
                cases hv
                subst hi2
                exact W.zret hx hb (hret.trans g6) hnw (fun t h1 h2 => hfin (fun x hx => by cases hx; trivial) t h1 h2) hfr hdg hlk
              · cases hv
            · split at hv
              · rename_i hnw
                cases hv
                subst hi2
                exact W.zret hx hb (hret.trans g6) hnw (fun t h1 h2 => hfin (fun x hx => by cases hx; trivial) t h1 h2) hfr hdg hlk
              · cases hv
            · cases hv
        · split at hrun
          · rename_i hkd
            split at hrun
            · rename_i h6
              cases hrun
              obtain ⟨⟨ik, ic, rfl, t3, t4, t7, w1, w2, w3, w4, w5⟩, hh0⟩ := q3 hkd
              have e1 : am_cc (am_thr M) = am_cc M + 1 := rfl
              have e2 : am_sl (am_thr M) = am_sl M + 6 := rfl
              have hcat := am_cat_cv hn.1.2.2.2.2.2.2 (l := st) hn.2.2.2.2.2
              refine vx_throw0 (cc := (Y y).2.1) (names := am_names) (A := am_A (am_b0 K)) (ik := ik) (ic := ic) hx hb hl hown (am_xn_fit a) am_names_fit (hts _ w1) (hts _ w2) (vx_hat (fun w hw => hts w (w3 w hw)) w4 (am_nsw hE)) w5 hE.2.2.2.2.2.2.1 hE.2.2.2.2.2.2.2.1 hn.2.2.1 (hn.2.2.2.1.1.1.trans hml.symm) hdg t3 t4 t7 (fun x hx => ?_) (by show 2 + 3 < _; omega) ?_ (by omega) (by omega) hlk (fun t h1 h2 h3 => ?_) hfr (by omega) (by omega)
              · rw [htab, hh0] at hx
                cases hx
              · rw [hcat]
                show am_cat st + (13 * (2 + 1) + 42) ≤ _
                omega
              · refine ⟨a, ad, rfl, rfl, hext, am_rep.moved h1 (am_rep.kept hn.1 fun q _ h5 => h3 q h5), hn.2.1, Nat.le_trans hn.2.2.1.1 h2, fun q h4 h5 => ?_⟩
                rw [h3 q (Nat.lt_of_lt_of_le h4 hn.2.2.1.1)]
                exact hn.2.2.1.2.1 q h4 h5
            · cases hrun
          · split at hrun
            · cases hrun
            · rename_i d'
              obtain ⟨hVa, hcall⟩ := q4 (by omega)
              split at hrun
              · cases hrun
              · rename_i hnot
                split at hrun
                · rename_i hra
                  split at hrun
                  · cases hrun
                  · rename_i v M1 hr
                    have l1 := am_run_le _ _ _ _ _ _ _ _ _ _ hr
                    have l2 := am_run_le _ _ _ _ _ _ _ _ _ _ hrun
                    have c1 := l1.2.1
                    have c2 := l2.2.1
                    have s1 := l1.2.2
                    have s2 := l2.2.2
                    obtain ⟨a9, hcr⟩ := am_callrun (y := y) (cells := cells) (slots := slots) (below := below) (e := e) (locs := locs) (meth := meth) hG hl (am_body.sub hsub ih) hc hn hdg hVa hcall (by omega) (by omega) hra.1 hra.2 hr ⟨by omega, by omega⟩
                    refine am_after hn.2.2.1 hcr (fun x ad' H1 locs1 q ce ho => by cases ho) ?_
                    intro v' ad' H1 locs1 ho he hok hrep hxt hS
                    cases ho
                    have e1 : (v.map (am_cv ad')).toList ++ (st.drop b).map (am_cv ad) = (v.toList ++ st.drop b).map (am_cv ad') := by
                      rw [List.map_append]
                      have e2 : (st.drop b).map (am_cv ad) = (st.drop b).map (am_cv ad') := List.map_congr_left fun w hw => (am_cv_ext he (hn.2.2.2.2.2 w (List.mem_of_mem_drop hw))).symm
                      rw [e2]
                      cases v <;> rfl
                    rw [e1]
                    refine ih (d' + 1) g y (pc + 3) L (v.toList ++ st.drop b) M1 o M' hrun hV hc htab hret ⟨hrep, hxt, hS, am_lrel.ext hn.2.2.2.1 he hn.2.2.2.2.1, fun w hw => am_okv_le l1 (hn.2.2.2.2.1 w hw), fun w hw => ?_⟩ (fun k hk => (he k (by rw [hle.1 k hk]; exact hk)).trans (hext k hk)) (hle.tr l1) (by omega) (by omega) hRc hRs
                    rcases List.mem_append.mp hw with hw | hw
                    · exact hok w (by cases v with | none => cases hw | some z => rw [show w = z from List.mem_singleton.mp hw])
                    · exact am_okv_le l1 (hn.2.2.2.2.2 w (List.mem_of_mem_drop hw))
                  · rename_i E M1 hr
                    have l1 := am_run_le _ _ _ _ _ _ _ _ _ _ hr
                    have c1 := l1.2.1
                    have s1 := l1.2.2
                    split at hrun
                    · cases hrun
                    · rename_i hh
                      cases hrun
                      obtain ⟨a9, hcr⟩ := am_callrun (y := y) (cells := cells) (slots := slots) (below := below) (e := e) (locs := locs) (meth := meth) hG hl (am_body.sub hsub ih) hc hn hdg hVa hcall (by omega) (by omega) hra.1 hra.2 hr ⟨by omega, by omega⟩
                      refine am_after hn.2.2.1 hcr ?_ (fun v' ad' H1 locs1 ho => by cases ho)
                      intro x ad' H1 locs1 q ce ho he hrep hxt hS hq hv hf
                      cases ho
                      refine vx_outP hown hlk (fun z hz => ?_) hq hv hf (fun t h1 h2 => ⟨E, ad', rfl, rfl, fun k hk => (he k (by rw [hle.1 k hk]; exact hk)).trans (hext k hk), by rw [h1]; exact am_rep.moved h2 hrep, hxt, hS.F h1⟩) hS.2.2 (by omega) (by omega)
                      rw [htab] at hz
                      rcases g8 pc E none hh z hz with h | ⟨h1, nm, h2, h3⟩
                      · exact Or.inl h
                      · exact Or.inr ⟨h1, nm, hts _ h2, hE.2.2.2.2.2.2.2.2.2.1 _ h3⟩
                    · rename_i h9 hh
                      split at hrun
                      · rename_i hk7
                        have l2 := am_run_le _ _ _ _ _ _ _ _ _ _ hrun
                        have c2 : am_cc M1 ≤ am_cc M' := l2.2.1
                        have s2 : am_sl M1 ≤ am_sl M' := l2.2.2
                        have e1 : am_cc (am_exc M1) = am_cc M1 := rfl
                        have e2 : am_sl (am_exc M1) = am_sl M1 := rfl
                        obtain ⟨a9, hcr⟩ := am_callrun (y := y) (cells := cells) (slots := slots) (below := below) (e := e) (locs := locs) (meth := meth) hG hl (am_body.sub hsub ih) hc hn hdg hVa hcall (by omega) (by omega) hra.1 hra.2 hr ⟨by omega, by omega⟩
                        refine am_after hn.2.2.1 hcr ?_ (fun v' ad' H1 locs1 ho => by cases ho)
                        intro x ad' H1 locs1 q ce ho he hrep hxt hS hq hv hf
                        cases ho
                        obtain ⟨pre, x, suf, name, z1, z2, z3, z4, z5, z6, z7⟩ := g8 pc E (some h9) hh
                        refine vx_catch hown pre x suf (htab.trans z1) (fun z hz => ?_) z2 z3 (hts _ z5) (am_nsw hE _ z6) hq hv hf ?_
                        · rcases z7 z hz with h | ⟨h1, nm, h2, h3⟩
                          · exact Or.inl h
                          · exact Or.inr ⟨h1, nm, hts _ h2, hE.2.2.2.2.2.2.2.2.2.1 _ h3⟩
                        · rw [z4]
                          have hup : ∀ k, ¬ am_tg M1 k = 0 → va_up ad' (am_key M1 7) (.ref q) k = ad' k := fun k hk => by
                            have : k ≠ am_key M1 7 := fun e => hk (by rw [e]; exact hk7)
                            simp [va_up, this]
                          have hle2 := am_le.exc hk7
                          have hst : [Value.ref q] = [Value.ref (am_key M1 7)].map (am_cv (va_up ad' (am_key M1 7) (.ref q))) := by
                            simp [am_cv, va_up]
                          rw [hst]
                          have hLok : ∀ w ∈ L, am_okv M1 w := fun w hw => am_okv_le l1 (hn.2.2.2.2.1 w hw)
                          refine ih (d' + 1) g y h9 L [.ref (am_key M1 7)] (am_exc M1) o M' hrun hV hc htab hret ⟨am_rep_exc hrep hk7, am_xt_exc hxt hk7, hS, am_lrel.ext (am_lrel.ext hn.2.2.2.1 he hn.2.2.2.2.1) hup hLok, fun w hw => am_okv_le hle2 (hLok w hw), fun w hw => ?_⟩ (fun k hk => ?_) ((hle.tr l1).tr hle2) (by omega) (by omega) hRc hRs
                          · rw [List.mem_singleton.mp hw]
                            show ¬ am_tg (am_exc M1) (am_key M1 7) = 0
                            unfold am_tg
                            rw [am_exc_eq]
                            decide
                          · have hk1 : ¬ am_tg M k = 0 := by rw [hle.1 k hk]; exact hk
                            exact ((hup k (by rw [l1.1 k hk1]; exact hk1)).trans (he k hk1)).trans (hext k hk)
                      · cases hrun
                · cases hrun
end AMW
