theorem dL_law_3765 : decode cL_law 3765 = .ok (.aload_n 0, 1) := by decide +kernel
theorem dL_law_3766 : decode cL_law 3766 = .ok (.iload 5, 2) := by decide +kernel
theorem dL_law_3768 : decode cL_law 3768 = .ok (.iconst 1, 1) := by decide +kernel
theorem dL_law_3769 : decode cL_law 3769 = .ok (.iadd, 1) := by decide +kernel
theorem dL_law_3770 : decode cL_law 3770 = .ok (.iaload, 1) := by decide +kernel
theorem dL_law_3771 : decode cL_law 3771 = .ok (.aload_n 3, 1) := by decide +kernel
theorem dL_law_3772 : decode cL_law 3772 = .ok (.invokestatic 389, 3) := by decide +kernel
theorem dL_law_3775 : decode cL_law 3775 = .ok (.istore 6, 2) := by decide +kernel
theorem dL_law_3777 : decode cL_law 3777 = .ok (.aload_n 2, 1) := by decide +kernel
theorem dL_law_3778 : decode cL_law 3778 = .ok (.aload_n 0, 1) := by decide +kernel
theorem dL_law_3779 : decode cL_law 3779 = .ok (.iload 5, 2) := by decide +kernel
theorem dL_law_3781 : decode cL_law 3781 = .ok (.iconst 1, 1) := by decide +kernel
theorem dL_law_3782 : decode cL_law 3782 = .ok (.iadd, 1) := by decide +kernel
theorem dL_law_3783 : decode cL_law 3783 = .ok (.iaload, 1) := by decide +kernel
theorem dL_law_3784 : decode cL_law 3784 = .ok (.invokevirtual 391, 3) := by decide +kernel
theorem dL_law_3787 : decode cL_law 3787 = .ok (.istore 7, 2) := by decide +kernel
theorem dL_law_3789 : decode cL_law 3789 = .ok (.aload_n 2, 1) := by decide +kernel
theorem dL_law_3790 : decode cL_law 3790 = .ok (.invokevirtual 196, 3) := by decide +kernel
theorem dL_law_3793 : decode cL_law 3793 = .ok (.iload 6, 2) := by decide +kernel
theorem dL_law_3795 : decode cL_law 3795 = .ok (.if_icmp .eq 5, 3) := by decide +kernel
theorem dL_law_3798 : decode cL_law 3798 = .ok (.iconst 0, 1) := by decide +kernel
theorem dL_law_3799 : decode cL_law 3799 = .ok (.ireturn, 1) := by decide +kernel
theorem dL_law_3800 : decode cL_law 3800 = .ok (.iload 6, 2) := by decide +kernel
theorem dL_law_3802 : decode cL_law 3802 = .ok (.ifCond .ne 15, 3) := by decide +kernel
theorem dL_law_3805 : decode cL_law 3805 = .ok (.aload_n 3, 1) := by decide +kernel
theorem dL_law_3806 : decode cL_law 3806 = .ok (.iconst 0, 1) := by decide +kernel
theorem dL_law_3807 : decode cL_law 3807 = .ok (.laload, 1) := by decide +kernel
theorem dL_law_3808 : decode cL_law 3808 = .ok (.iload 7, 2) := by decide +kernel
theorem dL_law_3810 : decode cL_law 3810 = .ok (.i2l, 1) := by decide +kernel
theorem dL_law_3811 : decode cL_law 3811 = .ok (.lcmp, 1) := by decide +kernel
theorem dL_law_3812 : decode cL_law 3812 = .ok (.ifCond .eq 5, 3) := by decide +kernel
theorem dL_law_3815 : decode cL_law 3815 = .ok (.iconst 0, 1) := by decide +kernel
theorem dL_law_3816 : decode cL_law 3816 = .ok (.ireturn, 1) := by decide +kernel
theorem dL_law_3817 : decode cL_law 3817 = .ok (.goto 120, 3) := by decide +kernel
theorem dL_law_3820 : decode cL_law 3820 = .ok (.aload_n 1, 1) := by decide +kernel
theorem dL_law_3821 : decode cL_law 3821 = .ok (.invokevirtual 392, 3) := by decide +kernel
theorem dL_law_3824 : decode cL_law 3824 = .ok (.aload_n 2, 1) := by decide +kernel
theorem dL_law_3825 : decode cL_law 3825 = .ok (.invokevirtual 395, 3) := by decide +kernel
theorem dL_law_3828 : decode cL_law 3828 = .ok (.if_icmp .eq 109, 3) := by decide +kernel
theorem dL_law_3831 : decode cL_law 3831 = .ok (.iconst 0, 1) := by decide +kernel
theorem dL_law_3832 : decode cL_law 3832 = .ok (.ireturn, 1) := by decide +kernel
theorem dL_law_3833 : decode cL_law 3833 = .ok (.aload_n 1, 1) := by decide +kernel
theorem dL_law_3834 : decode cL_law 3834 = .ok (.invokevirtual 396, 3) := by decide +kernel
theorem dL_law_3837 : decode cL_law 3837 = .ok (.aload_n 2, 1) := by decide +kernel
theorem dL_law_3838 : decode cL_law 3838 = .ok (.invokevirtual 399, 3) := by decide +kernel
theorem dL_law_3841 : decode cL_law 3841 = .ok (.if_icmp .eq 96, 3) := by decide +kernel
theorem dL_law_3844 : decode cL_law 3844 = .ok (.iconst 0, 1) := by decide +kernel
theorem dL_law_3845 : decode cL_law 3845 = .ok (.ireturn, 1) := by decide +kernel
theorem dL_law_3846 : decode cL_law 3846 = .ok (.aload_n 1, 1) := by decide +kernel
theorem dL_law_3847 : decode cL_law 3847 = .ok (.aload_n 0, 1) := by decide +kernel
theorem dL_law_3848 : decode cL_law 3848 = .ok (.iload 5, 2) := by decide +kernel
theorem dL_law_3850 : decode cL_law 3850 = .ok (.iconst 1, 1) := by decide +kernel
theorem dL_law_3851 : decode cL_law 3851 = .ok (.iadd, 1) := by decide +kernel
theorem dL_law_3852 : decode cL_law 3852 = .ok (.iaload, 1) := by decide +kernel
theorem dL_law_3853 : decode cL_law 3853 = .ok (.aload 4, 2) := by decide +kernel
theorem dL_law_3855 : decode cL_law 3855 = .ok (.invokestatic 400, 3) := by decide +kernel
theorem dL_law_3858 : decode cL_law 3858 = .ok (.istore 6, 2) := by decide +kernel
theorem dL_law_3860 : decode cL_law 3860 = .ok (.aload_n 2, 1) := by decide +kernel
theorem dL_law_3861 : decode cL_law 3861 = .ok (.aload_n 0, 1) := by decide +kernel
theorem dL_law_3862 : decode cL_law 3862 = .ok (.iload 5, 2) := by decide +kernel
theorem dL_law_3864 : decode cL_law 3864 = .ok (.iconst 1, 1) := by decide +kernel
theorem dL_law_3865 : decode cL_law 3865 = .ok (.iadd, 1) := by decide +kernel
theorem dL_law_3866 : decode cL_law 3866 = .ok (.iaload, 1) := by decide +kernel
theorem dL_law_3867 : decode cL_law 3867 = .ok (.invokevirtual 403, 3) := by decide +kernel
theorem dL_law_3870 : decode cL_law 3870 = .ok (.dstore 7, 2) := by decide +kernel
theorem dL_law_3872 : decode cL_law 3872 = .ok (.aload_n 2, 1) := by decide +kernel
theorem dL_law_3873 : decode cL_law 3873 = .ok (.invokevirtual 196, 3) := by decide +kernel
theorem dL_law_3876 : decode cL_law 3876 = .ok (.iload 6, 2) := by decide +kernel
theorem dL_law_3878 : decode cL_law 3878 = .ok (.if_icmp .eq 5, 3) := by decide +kernel
theorem dL_law_3881 : decode cL_law 3881 = .ok (.iconst 0, 1) := by decide +kernel
theorem dL_law_3882 : decode cL_law 3882 = .ok (.ireturn, 1) := by decide +kernel
theorem dL_law_3883 : decode cL_law 3883 = .ok (.iload 6, 2) := by decide +kernel
theorem dL_law_3885 : decode cL_law 3885 = .ok (.ifCond .ne 35, 3) := by decide +kernel
theorem dL_law_3888 : decode cL_law 3888 = .ok (.aload 4, 2) := by decide +kernel
theorem dL_law_3890 : decode cL_law 3890 = .ok (.iconst 0, 1) := by decide +kernel
theorem dL_law_3891 : decode cL_law 3891 = .ok (.daload, 1) := by decide +kernel
theorem dL_law_3892 : decode cL_law 3892 = .ok (.dload 7, 2) := by decide +kernel
theorem dL_law_3894 : decode cL_law 3894 = .ok (.dcmp .l, 1) := by decide +kernel
theorem dL_law_3895 : decode cL_law 3895 = .ok (.ifCond .eq 25, 3) := by decide +kernel
theorem dL_law_3898 : decode cL_law 3898 = .ok (.aload 4, 2) := by decide +kernel
theorem dL_law_3900 : decode cL_law 3900 = .ok (.iconst 0, 1) := by decide +kernel
theorem dL_law_3901 : decode cL_law 3901 = .ok (.daload, 1) := by decide +kernel
theorem dL_law_3902 : decode cL_law 3902 = .ok (.aload 4, 2) := by decide +kernel
theorem dL_law_3904 : decode cL_law 3904 = .ok (.iconst 0, 1) := by decide +kernel
theorem dL_law_3905 : decode cL_law 3905 = .ok (.daload, 1) := by decide +kernel
theorem dL_law_3906 : decode cL_law 3906 = .ok (.dcmp .l, 1) := by decide +kernel
theorem dL_law_3907 : decode cL_law 3907 = .ok (.ifCond .eq 11, 3) := by decide +kernel
theorem dL_law_3910 : decode cL_law 3910 = .ok (.dload 7, 2) := by decide +kernel
theorem dL_law_3912 : decode cL_law 3912 = .ok (.dload 7, 2) := by decide +kernel
theorem dL_law_3914 : decode cL_law 3914 = .ok (.dcmp .l, 1) := by decide +kernel
theorem dL_law_3915 : decode cL_law 3915 = .ok (.ifCond .ne 5, 3) := by decide +kernel
theorem dL_law_3918 : decode cL_law 3918 = .ok (.iconst 0, 1) := by decide +kernel
theorem dL_law_3919 : decode cL_law 3919 = .ok (.ireturn, 1) := by decide +kernel
theorem dL_law_3920 : decode cL_law 3920 = .ok (.goto 17, 3) := by decide +kernel
theorem dL_law_3923 : decode cL_law 3923 = .ok (.aload_n 1, 1) := by decide +kernel
theorem dL_law_3924 : decode cL_law 3924 = .ok (.invokevirtual 404, 3) := by decide +kernel
theorem dL_law_3927 : decode cL_law 3927 = .ok (.aload_n 2, 1) := by decide +kernel
theorem dL_law_3928 : decode cL_law 3928 = .ok (.invokevirtual 408, 3) := by decide +kernel
theorem dL_law_3931 : decode cL_law 3931 = .ok (.lcmp, 1) := by decide +kernel
theorem dL_law_3932 : decode cL_law 3932 = .ok (.ifCond .eq 5, 3) := by decide +kernel
theorem dL_law_3935 : decode cL_law 3935 = .ok (.iconst 0, 1) := by decide +kernel
theorem dL_law_3936 : decode cL_law 3936 = .ok (.ireturn, 1) := by decide +kernel
theorem dL_law_3937 : decode cL_law 3937 = .ok (.iinc 5 4, 3) := by decide +kernel
theorem dL_law_3940 : decode cL_law 3940 = .ok (.goto (-3912), 3) := by decide +kernel
theorem dL_law_3943 : decode cL_law 3943 = .ok (.iconst 1, 1) := by decide +kernel
theorem dL_law_3944 : decode cL_law 3944 = .ok (.ireturn, 1) := by decide +kernel
