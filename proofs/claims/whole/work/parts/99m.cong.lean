/-! A RUN SEES ONLY THE CELLS THERE ARE: the run -/
section DYE
variable {μ ν : db_H} {X X' : db_X}
theorem dy_stp {mr : db_MR} {pc : Nat} {i : Instr} {lv : db_V} {st : List Value} (hX : X = none ∨ X = X') (h : dy_H μ ν) : dy_L dy_R (db_stp X mr pc i lv st μ) (db_stp X' mr pc i lv st ν) := by
  have hp : ∀ {a : Nat} {l : db_V} {s : List Value} {μ' ν' : db_H}, dy_H μ' ν' → dy_L dy_R (some (a, l, s, μ')) (some (a, l, s, ν')) := fun h => dy_Ls ⟨rfl, rfl, rfl, h⟩
  cases i
  case aaload =>
    unfold db_stp
    refine dy_sRI fun a j r => ?_
    rcases dy_arr h a with e | ⟨k', n, f, f', e, e', hf⟩
    · rw [e]
      split
      · rw [dy_ald h]
        exact dy_Lc (dy_Lb fun _ => hp h) dy_Ln
      · exact dy_Ln
    · rw [e, e']
      dsimp only
      rw [dy_ald h]
      exact dy_Lc (dy_Lb fun _ => hp h) dy_Ln
  case arraylength =>
    unfold db_stp
    refine dy_sR fun a r => dy_Lc ?_ (dy_Lc (hp h) ?_)
    · rcases hX with rfl | rfl
      · exact dy_Ln
      · cases X with
        | none => exact dy_Ln
        | some q => exact hp h
    · rcases dy_arr h a with e | ⟨k', n, f, f', e, e', hf⟩
      · rw [e]
        split
        · exact dy_Lc (hp h) dy_Ln
        · exact dy_Ln
      · rw [e, e']
        exact dy_Lc (hp h) dy_Ln
  case iaload =>
    unfold db_stp
    refine dy_sRI fun a j r => dy_Lc ?_ ?_
    · rcases hX with rfl | rfl
      · exact dy_Ln
      · cases X with
        | none => exact dy_Ln
        | some q => exact dy_Lc (hp h) dy_Ln
    · rw [dy_ald h]
      exact dy_Lb fun _ => hp h
  all_goals first
    | exact dy_Ln
    | exact hp h
    | (unfold db_stp; dsimp only; repeat' (first
        | exact dy_Ln
        | exact hp h
        | (refine dy_sI fun _ _ => ?_)
        | (refine dy_sII fun _ _ _ => ?_)
        | (refine dy_sL fun _ _ => ?_)
        | (refine dy_sLL fun _ _ _ => ?_)
        | (refine dy_sLI fun _ _ _ => ?_)
        | (refine dy_sR fun _ _ => ?_)
        | (refine dy_sVV fun _ _ _ => ?_)
        | (refine dy_sVR fun _ _ _ => ?_)
        | (refine dy_sRIV fun _ _ _ _ => ?_)
        | (refine dy_sRI fun _ _ _ => ?_)
        | (refine dy_sV fun _ _ => ?_)
        | (refine dy_s5 fun _ _ _ _ _ _ => ?_)
        | (refine dy_gI fun _ => ?_)
        | (refine dy_gL fun _ => ?_)
        | (refine dy_gR fun _ => ?_)
        | (refine dy_LB (dy_putf h) fun _ _ q => ?_; exact hp q)
        | (refine dy_LB (dy_ast h) fun _ _ q => ?_; exact hp q)
        | (refine dy_LB (dy_asq h) fun _ _ q => ?_; exact hp q)
        | (refine dy_LB (dy_cpy h) fun _ _ q => ?_; exact hp q)
        | (refine dy_LB (dy_new h) fun _ _ q => ?_; exact dy_Ls ⟨rfl, rfl, by rw [q.1], q.2⟩)
        | (refine dy_LB (dy_newa h) fun _ _ q => ?_; exact dy_Ls ⟨rfl, rfl, by rw [q.1], q.2⟩)
        | (refine dy_LB (dy_anew h) fun _ _ q => ?_; exact dy_Ls ⟨rfl, rfl, by rw [q.1], q.2⟩)
        | (refine dy_LB (dy_mnew h) fun _ _ q => ?_; exact dy_Ls ⟨rfl, rfl, by rw [q.1], q.2⟩)
        | (rw [dy_getf h]; refine dy_Lb fun _ => ?_)
        | (rw [dy_ald h]; refine dy_Lb fun _ => ?_)
        | (refine dy_Lb fun _ => ?_)
        | (refine dy_Lc ?_ ?_)
        | split))
theorem dy_ev (hX : X = none ∨ X = X') : ∀ (n d : Nat) (mr : db_MR) (pc : Nat) (lv : db_V) (st : List Value) (μ ν : db_H), dy_H μ ν → dy_L (fun p q => p.1 = q.1 ∧ dy_H p.2 q.2) (db_ev X n d mr pc lv st μ) (db_ev X' n d mr pc lv st ν) := by
  intro n
  induction n with
  | zero => intros; exact dy_Ln
  | succ n IH =>
    intro d mr pc lv st μ ν h
    rw [db_ev, db_ev]
    cases db_fi pc mr.2.2.2.2.2.1 with
    | none => exact dy_Ln
    | some q =>
      obtain ⟨i, ks⟩ := q
      dsimp only
      cases db_nrm lv ks with
      | none => exact dy_Ln
      | some lv1 =>
        dsimp only
        cases db_ret mr i st with
        | some r => exact dy_Ls ⟨rfl, h⟩
        | none =>
          dsimp only
          rw [dy_cal h]
          cases db_cal mr i st ν with
          | some q =>
            obtain ⟨mr', as, rest⟩ := q
            dsimp only
            cases d with
            | zero => exact dy_Ln
            | succ d =>
              dsimp only
              have hI := IH d mr' 0 (lv_args 0 as) [] μ ν h
              cases h1 : db_ev X n d mr' 0 (lv_args 0 as) [] μ with
              | none => exact dy_Ln
              | some q =>
                obtain ⟨q', e, hr, hh⟩ := hI q h1
                rw [e]
                obtain ⟨r, μ1⟩ := q
                obtain ⟨r', ν1⟩ := q'
                dsimp only at hr hh ⊢
                subst hr
                exact IH (d + 1) mr (pc + 3) lv1 _ μ1 ν1 hh
          | none =>
            dsimp only
            have hs := dy_stp (mr := mr) (pc := pc) (i := i) (lv := lv1) (st := st) hX h
            cases h1 : db_stp X mr pc i lv1 st μ with
            | none => exact dy_Ln
            | some q =>
              obtain ⟨q', e, e1, e2, e3, hh⟩ := hs q h1
              rw [e]
              obtain ⟨a1, a2, a3, μ1⟩ := q
              obtain ⟨b1, b2, b3, ν1⟩ := q'
              dsimp only at e1 e2 e3 hh ⊢
              subst e1
              subst e2
              subst e3
              rw [h.1, h.2.1, hh.1, hh.2.1]
              exact dy_Lc (IH d mr a1 a2 a3 μ1 ν1 hh) dy_Ln
end DYE
